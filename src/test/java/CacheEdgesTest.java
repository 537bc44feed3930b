import java.util.List;
import java.util.NoSuchElementException;
import java.util.function.Consumer;

/** Edges of 'Cache' in the document, and of its promises 11, 21 to 27, 37 and 39; one test for each sentence. */
public final class CacheEdgesTest {
    private static final Class<?> NO_TILE = NoSuchElementException.class;
    private static final Check CHECK = new Check();

    public static void main(String[] args) {
        theCacheHasAtMost5Tiles();
        aHitIsACellOfATileInTheCache();
        otherwiseItIsAMiss();
        theTileAskedForTheLongestTimeAgoLeaves();
        aHitCountsAsAsking();
        onlyCellAtCountsAsAsking();
        aRefusedCellAtCountsAsNothing();
        noneLeavesWhileThereIsRoom();
        roomIsMadeByTilesThatLeft();
        aTileIsThereWithin20Ticks();
        aTileLeavesAfter20Ticks();
        aTileLeavesAfterMoreThan20Ticks();
        ticksAreCountedSinceTheTileWasDrawn();
        aHitDoesNotDrawATileAnew();
        aTileThatLeftIsDrawnAnew();
        passReturnsHowManyTilesLeave();
        aLineThatIsMadeDropsTilesItTouches();
        aLineThatIsTakenAwayDropsTilesItTouches();
        anAreaThatIsMadeDropsTilesItTouches();
        anAreaThatIsTakenAwayDropsTilesItTouches();
        aRectangleThatContainsATileDropsIt();
        aRectangleWithinATileDropsIt();
        aRectangleAcrossATileDropsIt();
        aPlaceOnTheBorderOfATileDropsIt();
        theRectangleIsThatOfALineNotTheLine();
        theRectangleIsThatOfAllPointsOfALine();
        theRectangleIsThatOfAnAreaNotTheArea();
        theRectangleOfAnAreaGoesBeyondTheMap();
        extendDropsTilesOfTheLineAfterwards();
        extendDropsTilesOfTheLineBefore();
        movePointDropsTilesOfTheLineBeforeAndAfterwards();
        movePointLeavesTilesBetweenBothRectangles();
        dropPointDropsTilesOfTheLineBefore();
        moveAreaDropsTilesOfTheAreaBeforeAndAfterwards();
        moveAreaLeavesTilesBetweenBothRectangles();
        aChangeToWhatWasThereDropsTiles();
        aToleranceDropsAllTilesOfItsLevel();
        theSameToleranceDropsAllTilesOfItsLevel();
        aToleranceLeavesTilesOfOtherLevels();
        labelsDropNoTiles();
        questionsChangeNothing();
        tilesAreToldFromOneAnother();
        ageOfATileThatIsNotInTheCache();
        agesFrom0To19();
        cachedFromNoneToFive();
        missesFromNoneOn();
        missesOfAsManyCallsAsThereAre();
        hitShareNeedsACall();
        hitShareOfMissesOnly();
        hitShareOfAsManyHitsAsThereCanBe();
        drawnCountsFromNoneOn();
        drawnCountsEachMiss();
        drawnOfAsManyCallsAsThereAre();
        anEmptyCacheIsFresh();
        aFullCacheIsFresh();
        aCachedTileIsWhatWouldBeDrawnNow();
        CHECK.end();
    }

    /** Asks for the tiles of the lowest row at level 3, from one column to another. */
    private static TileServer row(TileServer server, int from, int to) {
        for (int column = from; column <= to; column++) {
            server.cellAt(3, column, 0, 0, 0);
        }
        return server;
    }

    /** Tells which of the columns 0 to 7 of the lowest row at level 3 are in the cache. */
    private static String columns(TileServer server) {
        StringBuilder text = new StringBuilder();
        for (int column = 0; column < 8; column++) {
            text.append(server.isCached(3, column, 0) ? column : "");
        }
        return text.toString();
    }

    private static void theCacheHasAtMost5Tiles() {
        TileServer server = new TileServer();
        for (int i = 0; i < 64; i++) {
            server.cellAt(3, i / 8, i % 8, 0, 0);
            CHECK.same("tiles in the cache", server.cached(), Math.min(i + 1, 5));
        }
    }

    private static void aHitIsACellOfATileInTheCache() {
        TileServer server = row(new TileServer(), 0, 4);
        server.cellAt(3, 0, 0, 7, 7);
        server.cellAt(3, 4, 0, 0, 7);
        CHECK.same("misses", server.misses(), 5);
        CHECK.same("hits", server.hitShare(), 2f / 7f);
    }

    private static void otherwiseItIsAMiss() {
        TileServer server = row(new TileServer(), 0, 4);
        server.cellAt(3, 0, 1, 0, 0);
        server.cellAt(2, 0, 0, 0, 0);
        CHECK.same("misses", server.misses(), 7);
        CHECK.same("hits", server.hitShare(), 0f);
    }

    private static void theTileAskedForTheLongestTimeAgoLeaves() {
        TileServer server = row(new TileServer(), 0, 4);
        CHECK.same("five tiles", columns(server), "01234");
        row(server, 5, 5);
        CHECK.same("the first one left", columns(server), "12345");
        row(server, 6, 7);
        CHECK.same("two more left", columns(server), "34567");
        row(server, 0, 2);
        CHECK.same("three more left", columns(server), "01267");
    }

    private static void aHitCountsAsAsking() {
        TileServer server = row(new TileServer(), 0, 4);
        row(server, 0, 1);
        row(server, 4, 4);
        row(server, 2, 2);
        row(server, 5, 5);
        CHECK.same("3 was not asked for again", columns(server), "01245");
        row(server, 6, 7);
        CHECK.same("0 and 1 were asked for before 4", columns(server), "24567");
        row(server, 0, 0);
        CHECK.same("4 was asked for before 2", columns(server), "02567");
    }

    private static void onlyCellAtCountsAsAsking() {
        TileServer server = row(new TileServer(), 0, 4);
        server.cellByDrawing(3, 0, 0, 0, 0);
        server.isCached(3, 0, 0);
        server.ageOf(3, 0, 0);
        server.segmentsIn(3, 0, 0);
        server.isFresh();
        row(server, 5, 5);
        CHECK.same("the first one left", columns(server), "12345");
    }

    private static void aRefusedCellAtCountsAsNothing() {
        TileServer server = row(new TileServer(), 0, 4);
        for (int wrong : new int[] {-1, 8}) {
            CHECK.same("a cell that is not there", Check.answer(server, s -> s.cellAt(3, 0, 0, 0, wrong)), IndexOutOfBoundsException.class.getName());
            CHECK.same("a cell that is not there", Check.answer(server, s -> s.cellAt(3, 0, 0, wrong, 0)), IndexOutOfBoundsException.class.getName());
            CHECK.same("a cell of a tile that is not drawn", Check.answer(server, s -> s.cellAt(3, 5, 0, wrong, 0)), IndexOutOfBoundsException.class.getName());
        }
        CHECK.same("misses", server.misses(), 5);
        CHECK.same("hits", server.hitShare(), 0f);
        row(server, 5, 5);
        CHECK.same("the first one left", columns(server), "12345");
    }

    private static void noneLeavesWhileThereIsRoom() {
        TileServer server = new TileServer();
        for (int column = 0; column < 5; column++) {
            row(server, column, column);
            CHECK.same("all are there", columns(server), "01234".substring(0, column + 1));
        }
    }

    private static void roomIsMadeByTilesThatLeft() {
        TileServer server = row(new TileServer(), 0, 4);
        server.addLine(17, 1, 18, 2);
        CHECK.same("one left", columns(server), "0134");
        row(server, 6, 6);
        CHECK.same("the new one takes its room", columns(server), "01346");
        row(server, 7, 7);
        CHECK.same("then the first one leaves", columns(server), "13467");
        server.pass(20);
        CHECK.same("all left", columns(server), "");
        row(server, 3, 7);
        CHECK.same("there was room for five", columns(server), "34567");
    }

    private static void aTileIsThereWithin20Ticks() {
        TileServer server = row(new TileServer(), 0, 0);
        CHECK.same("tiles that leave after 19 ticks", server.pass(19), 0);
        CHECK.same("after 19 ticks", columns(server), "0");
        server = row(new TileServer(), 0, 0);
        for (int tick = 1; tick < 20; tick++) {
            CHECK.same("tiles that leave after " + tick, server.pass(1), 0);
            CHECK.same("after " + tick, columns(server), "0");
        }
    }

    private static void aTileLeavesAfter20Ticks() {
        TileServer server = row(new TileServer(), 0, 0);
        CHECK.same("tiles that leave after 20 ticks", server.pass(20), 1);
        CHECK.same("after 20 ticks", columns(server), "");
        server = row(new TileServer(), 0, 0);
        server.pass(19);
        CHECK.same("tiles that leave after 19 and 1", server.pass(1), 1);
        CHECK.same("after 19 and 1", columns(server), "");
        CHECK.same("tiles that leave once more", server.pass(20), 0);
    }

    private static void aTileLeavesAfterMoreThan20Ticks() {
        TileServer server = row(new TileServer(), 0, 0);
        CHECK.same("tiles that leave after 21 ticks", server.pass(21), 1);
        row(server, 0, 0);
        CHECK.same("tiles that leave after 99 ticks", server.pass(99), 1);
        row(server, 0, 0);
        server.pass(19);
        CHECK.same("tiles that leave after 19 and 99 ticks", server.pass(99), 1);
        CHECK.same("after all", columns(server), "");
    }

    private static void ticksAreCountedSinceTheTileWasDrawn() {
        TileServer server = new TileServer();
        server.pass(99);
        row(server, 0, 0);
        server.pass(10);
        row(server, 1, 1);
        CHECK.same("the first one stays for 19", server.pass(9), 0);
        CHECK.same("the first one leaves", server.pass(1), 1);
        CHECK.same("the second one is left", columns(server), "1");
        CHECK.same("the second one stays for 19", server.pass(9), 0);
        CHECK.same("the second one leaves", server.pass(1), 1);
    }

    private static void aHitDoesNotDrawATileAnew() {
        TileServer server = row(new TileServer(), 0, 0);
        server.pass(19);
        row(server, 0, 0);
        CHECK.same("its age", server.ageOf(3, 0, 0), 19);
        CHECK.same("it leaves", server.pass(1), 1);
    }

    private static void aTileThatLeftIsDrawnAnew() {
        TileServer server = row(new TileServer(), 0, 0);
        server.pass(20);
        row(server, 0, 0);
        CHECK.same("misses", server.misses(), 2);
        CHECK.same("its age", server.ageOf(3, 0, 0), 0);
        CHECK.same("it stays for 19", server.pass(19), 0);
        server.addLine(0, 0, 1, 1);
        CHECK.same("a tile that left for a line", server.cellAt(3, 0, 0, 0, 0), 1);
        CHECK.same("its age", server.ageOf(3, 0, 0), 0);
    }

    private static void passReturnsHowManyTilesLeave() {
        for (int count = 0; count <= 5; count++) {
            CHECK.same("all of " + count, row(new TileServer(), 1, count).pass(20), count);
            TileServer server = row(new TileServer(), 1, count);
            server.pass(1);
            row(server, count + 1, 5);
            CHECK.same(count + " of five", server.pass(19), count);
            CHECK.same("the others", server.cached(), 5 - count);
        }
        CHECK.same("none of none", new TileServer().pass(1), 0);
    }

    /** Checks whether a change drops the tile of column 1 and row 1 at level 2, which lies from 16 to 32 each way. */
    private static void drops(String what, boolean due, Consumer<TileServer> before, Consumer<TileServer> change) {
        TileServer server = new TileServer();
        before.accept(server);
        server.cellAt(2, 1, 1, 0, 0);
        change.accept(server);
        CHECK.same("the tile leaves, " + what, !server.isCached(2, 1, 1), due);
        CHECK.same("all is fresh, " + what, server.isFresh(), true);
    }

    private static final Consumer<TileServer> NOTHING = server -> {
    };

    /** The corners of rectangles, and 1 for those that have a point in common with the tile. */
    private static final int[][] RECTANGLES = {
        {0, 20, 15, 24, 0}, {0, 20, 16, 24, 1}, {33, 20, 40, 24, 0}, {32, 20, 40, 24, 1},
        {20, 0, 24, 15, 0}, {20, 0, 24, 16, 1}, {20, 33, 24, 64, 0}, {20, 32, 24, 64, 1},
        {8, 8, 16, 16, 1}, {8, 8, 15, 16, 0}, {8, 8, 16, 15, 0}, {32, 32, 40, 40, 1}, {33, 32, 40, 40, 0}, {32, 33, 40, 40, 0},
        {8, 32, 16, 40, 1}, {8, 32, 15, 40, 0}, {8, 33, 16, 40, 0}, {32, 8, 40, 16, 1}, {33, 8, 40, 16, 0}, {32, 8, 40, 15, 0}};

    private static void aLineThatIsMadeDropsTilesItTouches() {
        for (int[] r : RECTANGLES) {
            drops("a line upwards", r[4] == 1, NOTHING, s -> s.addLine(r[0], r[1], r[2], r[3]));
            drops("a line downwards", r[4] == 1, NOTHING, s -> s.addLine(r[0], r[3], r[2], r[1]));
            drops("a line back", r[4] == 1, NOTHING, s -> s.addLine(r[2], r[3], r[0], r[1]));
        }
    }

    private static void aLineThatIsTakenAwayDropsTilesItTouches() {
        for (int[] r : RECTANGLES) {
            drops("remove of a line upwards", r[4] == 1, s -> s.addLine(r[0], r[1], r[2], r[3]), s -> s.remove(1));
            drops("remove of a line downwards", r[4] == 1, s -> s.addLine(r[2], r[1], r[0], r[3]), s -> s.remove(1));
        }
    }

    /** The centres and reaches of areas, and 1 for those whose rectangles have a point in common with the tile. */
    private static final int[][] SQUARES = {
        {10, 24, 5, 0}, {11, 24, 5, 1}, {38, 24, 5, 0}, {37, 24, 5, 1}, {24, 10, 5, 0}, {24, 11, 5, 1}, {24, 38, 5, 0}, {24, 37, 5, 1},
        {11, 11, 5, 1}, {10, 11, 5, 0}, {11, 10, 5, 0}, {37, 37, 5, 1}, {38, 37, 5, 0}, {37, 38, 5, 0},
        {11, 37, 5, 1}, {10, 37, 5, 0}, {11, 38, 5, 0}, {37, 11, 5, 1}, {38, 11, 5, 0}, {37, 10, 5, 0},
        {0, 0, 15, 0}, {0, 0, 16, 1}, {53, 24, 20, 0}, {52, 24, 20, 1}, {15, 24, 1, 1}, {14, 24, 1, 0}};

    private static void anAreaThatIsMadeDropsTilesItTouches() {
        for (int[] r : SQUARES) {
            drops("a square", r[3] == 1, NOTHING, s -> s.addArea(r[0], r[1], r[2], 2 * r[2]));
            drops("a diamond", r[3] == 1, NOTHING, s -> s.addArea(r[0], r[1], r[2], r[2]));
        }
    }

    private static void anAreaThatIsTakenAwayDropsTilesItTouches() {
        for (int[] r : SQUARES) {
            drops("remove of a square", r[3] == 1, s -> s.addArea(r[0], r[1], r[2], 2 * r[2]), s -> s.remove(1));
            drops("remove of a diamond", r[3] == 1, s -> s.addArea(r[0], r[1], r[2], r[2]), s -> s.remove(1));
        }
    }

    private static void aRectangleThatContainsATileDropsIt() {
        drops("a line around it", true, NOTHING, s -> s.addLine(0, 0, 64, 64));
        drops("an area around it", true, NOTHING, s -> s.addArea(24, 24, 20, 40));
        drops("a line along its borders", true, NOTHING, s -> s.addLine(16, 16, 32, 32));
    }

    private static void aRectangleWithinATileDropsIt() {
        drops("a line at one place", true, NOTHING, s -> s.addLine(24, 24, 24, 24));
        drops("a line within", true, NOTHING, s -> s.addLine(17, 18, 31, 30));
        drops("an area within", true, NOTHING, s -> s.addArea(24, 24, 1, 1));
    }

    private static void aRectangleAcrossATileDropsIt() {
        drops("a line across", true, NOTHING, s -> s.addLine(0, 20, 64, 22));
        drops("a line from below", true, NOTHING, s -> s.addLine(20, 0, 22, 64));
        drops("a line beside", false, NOTHING, s -> s.addLine(0, 33, 64, 40));
        drops("a line beside, from below", false, NOTHING, s -> s.addLine(10, 0, 15, 64));
    }

    /** Lines at one place: in the corners of each tile, and 1 beyond them. */
    private static void aPlaceOnTheBorderOfATileDropsIt() {
        for (int level = 0; level < 4; level++) {
            int side = 64 >> level;
            for (int i = 0; i < 1 << 2 * level; i++) {
                int left = side * (i >> level);
                int low = side * (i % (1 << level));
                for (int x : new int[] {left - 1, left, left + side, left + side + 1}) {
                    for (int y : new int[] {low - 1, low, low + side, low + side + 1}) {
                        boolean due = x >= left && x <= left + side && y >= low && y <= low + side;
                        placeDrops(level, left / side, low / side, x, y, due);
                    }
                }
            }
        }
    }

    private static void placeDrops(int level, int column, int row, int x, int y, boolean due) {
        if (Math.min(x, y) >= 0 && Math.max(x, y) <= 64) {
            TileServer server = new TileServer();
            server.cellAt(level, column, row, 0, 0);
            server.addLine(x, y, x, y);
            CHECK.same(x + ", " + y + " drops the tile " + level + ", " + column + ", " + row, server.cached(), due ? 0 : 1);
        }
    }

    private static void theRectangleIsThatOfALineNotTheLine() {
        // It passes the tile far above and to the left.
        drops("a line that does not come near", true, NOTHING, s -> s.addLine(0, 20, 20, 64));
        // Only a point that is kept at no level reaches the tile.
        drops("a point that is never kept", true, s -> straightLine(s, 32), s -> s.movePoint(1, 3, 51, 20));
        drops("a point that is never kept, before its border", false, s -> straightLine(s, 33), s -> s.movePoint(1, 3, 51, 20));
    }

    private static void theRectangleIsThatOfAllPointsOfALine() {
        // Neither of both segments comes near the tile, which lies between them.
        drops("movePoint of the last point from there", true, s -> corner(s, 60), s -> s.movePoint(1, 2, 3, 2));
        drops("movePoint of the last point to there", true, s -> corner(s, 3), s -> s.movePoint(1, 2, 60, 2));
        drops("movePoint of the last point to before there", false, s -> corner(s, 3), s -> s.movePoint(1, 2, 15, 2));
        drops("movePoint of the point between", true, s -> corner(s, 60), s -> s.movePoint(1, 1, 3, 3));
        drops("extend", true, s -> s.addLine(1, 60, 2, 2), s -> s.extend(1, 60, 2));
        drops("dropPoint of the last point", true, s -> corner(s, 60), s -> s.dropPoint(1, 2));
        drops("dropPoint of the first point", true, s -> corner(s, 60), s -> s.dropPoint(1, 0));
        drops("remove", true, s -> corner(s, 60), s -> s.remove(1));
    }

    private static void corner(TileServer server, int x) {
        server.addLine(1, 60, 2, 2);
        server.extend(1, x, 2);
    }

    private static void straightLine(TileServer server, int x) {
        server.addLine(40, 20, 45, 20);
        server.extend(1, x, 20);
        server.extend(1, 50, 20);
    }

    private static void theRectangleIsThatOfAnAreaNotTheArea() {
        drops("a diamond whose sides are far from it", true, NOTHING, s -> s.addArea(0, 0, 20, 20));
        drops("a cut square", true, NOTHING, s -> s.addArea(11, 37, 5, 7));
    }

    private static void theRectangleOfAnAreaGoesBeyondTheMap() {
        drops("to the left of the map", true, NOTHING, s -> s.addArea(0, 24, 16, 16));
        drops("to the left of the map, too short", false, NOTHING, s -> s.addArea(0, 24, 15, 15));
        TileServer server = new TileServer();
        server.cellAt(3, 7, 7, 0, 0);
        server.addArea(64, 64, 1, 1);
        CHECK.same("in the corner of the map", server.cached(), 0);
    }

    private static void extendDropsTilesOfTheLineAfterwards() {
        drops("extend to its border", true, s -> s.addLine(0, 20, 8, 20), s -> s.extend(1, 16, 20));
        drops("extend to before its border", false, s -> s.addLine(0, 20, 8, 20), s -> s.extend(1, 15, 20));
        drops("extend so that only the rectangle reaches it", true, s -> s.addLine(0, 20, 8, 20), s -> s.extend(1, 16, 64));
    }

    private static void extendDropsTilesOfTheLineBefore() {
        drops("extend to elsewhere", true, s -> s.addLine(16, 20, 8, 20), s -> s.extend(1, 0, 20));
        drops("extend far from it", false, s -> s.addLine(15, 20, 8, 20), s -> s.extend(1, 0, 20));
    }

    private static void movePointDropsTilesOfTheLineBeforeAndAfterwards() {
        drops("movePoint from its border", true, s -> s.addLine(0, 20, 16, 20), s -> s.movePoint(1, 1, 8, 20));
        drops("movePoint to its border", true, s -> s.addLine(0, 20, 8, 20), s -> s.movePoint(1, 1, 16, 20));
        drops("movePoint of the first point to its border", true, s -> s.addLine(0, 20, 8, 20), s -> s.movePoint(1, 0, 16, 20));
        drops("movePoint from before its border", false, s -> s.addLine(0, 20, 15, 20), s -> s.movePoint(1, 1, 8, 20));
        drops("movePoint to before its border", false, s -> s.addLine(0, 20, 8, 20), s -> s.movePoint(1, 1, 15, 20));
    }

    private static void movePointLeavesTilesBetweenBothRectangles() {
        drops("movePoint around it", false, s -> s.addLine(1, 1, 2, 50), s -> s.movePoint(1, 1, 50, 2));
        drops("movePoint around it to its border", true, s -> s.addLine(1, 1, 2, 50), s -> s.movePoint(1, 1, 50, 16));
    }

    private static void dropPointDropsTilesOfTheLineBefore() {
        drops("dropPoint on its border", true, s -> lineOf3(s, 16), s -> s.dropPoint(1, 2));
        drops("dropPoint before its border", false, s -> lineOf3(s, 15), s -> s.dropPoint(1, 2));
        drops("dropPoint of another point", true, s -> lineOf3(s, 16), s -> s.dropPoint(1, 0));
        drops("dropPoint of another point, far from it", false, s -> lineOf3(s, 15), s -> s.dropPoint(1, 1));
    }

    private static void lineOf3(TileServer server, int x) {
        server.addLine(0, 20, 8, 20);
        server.extend(1, x, 20);
    }

    private static void moveAreaDropsTilesOfTheAreaBeforeAndAfterwards() {
        drops("moveArea from its border", true, s -> s.addArea(11, 20, 5, 5), s -> s.moveArea(1, -6, 0));
        drops("moveArea to its border", true, s -> s.addArea(5, 20, 5, 5), s -> s.moveArea(1, 6, 0));
        drops("moveArea to its upper border", true, s -> s.addArea(20, 60, 5, 5), s -> s.moveArea(1, 0, -23));
        drops("moveArea from before its border", false, s -> s.addArea(10, 20, 5, 5), s -> s.moveArea(1, -5, 0));
        drops("moveArea to before its border", false, s -> s.addArea(5, 20, 5, 5), s -> s.moveArea(1, 5, 0));
        drops("moveArea to before its upper border", false, s -> s.addArea(20, 60, 5, 5), s -> s.moveArea(1, 0, -22));
    }

    private static void moveAreaLeavesTilesBetweenBothRectangles() {
        drops("moveArea across it", false, s -> s.addArea(5, 24, 5, 5), s -> s.moveArea(1, 40, 0));
        drops("moveArea aslant across it", false, s -> s.addArea(5, 5, 5, 5), s -> s.moveArea(1, 40, 40));
    }

    private static void aChangeToWhatWasThereDropsTiles() {
        drops("movePoint to the same place", true, s -> s.addLine(0, 20, 16, 20), s -> s.movePoint(1, 1, 16, 20));
        drops("movePoint of the other point", true, s -> s.addLine(0, 20, 16, 20), s -> s.movePoint(1, 0, 0, 20));
        drops("moveArea by nothing", true, s -> s.addArea(11, 20, 5, 5), s -> s.moveArea(1, 0, 0));
        drops("extend at the same place", true, s -> s.addLine(0, 20, 16, 20), s -> s.extend(1, 16, 20));
        drops("movePoint to the same place, far from it", false, s -> s.addLine(0, 20, 15, 20), s -> s.movePoint(1, 1, 15, 20));
        drops("moveArea by nothing, far from it", false, s -> s.addArea(10, 20, 5, 5), s -> s.moveArea(1, 0, 0));
    }

    /** One tile of each level, and a second one of the level 3. */
    private static TileServer eachLevel() {
        TileServer server = Recipes.line(0, 0, 10, 3, 20, 0);
        server.cellAt(0, 0, 0, 0, 0);
        server.cellAt(1, 1, 1, 0, 0);
        server.cellAt(2, 0, 0, 0, 0);
        server.cellAt(3, 7, 0, 0, 0);
        server.cellAt(3, 0, 0, 0, 0);
        return server;
    }

    private static String levels(TileServer server) {
        return (server.isCached(0, 0, 0) ? "0" : "") + (server.isCached(1, 1, 1) ? "1" : "")
            + (server.isCached(2, 0, 0) ? "2" : "") + (server.isCached(3, 7, 0) ? "3" : "") + (server.isCached(3, 0, 0) ? "3" : "");
    }

    private static void aToleranceDropsAllTilesOfItsLevel() {
        TileServer server = row(new TileServer(), 0, 4);
        server.setTolerance(3, 9);
        CHECK.same("five tiles of level 3", server.cached(), 0);
        server = new TileServer();
        server.cellAt(0, 0, 0, 0, 0);
        server.setTolerance(0, 0);
        CHECK.same("the tile of level 0", server.cached(), 0);
    }

    private static void theSameToleranceDropsAllTilesOfItsLevel() {
        int[] first = {4, 2, 1, 0};
        String[] left = {"1233", "0233", "0133", "012"};
        for (int level = 0; level < 4; level++) {
            TileServer server = eachLevel();
            server.setTolerance(level, first[level]);
            CHECK.same("tiles of other levels", levels(server), left[level]);
        }
    }

    private static void aToleranceLeavesTilesOfOtherLevels() {
        String[] left = {"1233", "0233", "0133", "012"};
        for (int level = 0; level < 4; level++) {
            TileServer server = eachLevel();
            server.setTolerance(level, 9);
            CHECK.same("tiles of other levels", levels(server), left[level]);
            CHECK.same("they are fresh", server.isFresh(), true);
        }
    }

    private static void labelsDropNoTiles() {
        drops("the label of a line", false, s -> s.addLine(24, 24, 25, 25), s -> s.setLabel(1, 8, 9));
        drops("the label of an area", false, s -> s.addArea(24, 24, 5, 5), s -> s.setLabel(1, 8, 9));
        drops("a label taken away", false, s -> s.setLabel(s.addArea(24, 24, 5, 5), 8, 9), s -> s.setLabel(1, 0, 9));
        TileServer server = Recipes.area(24, 24, 2, 2);
        server.setLabel(1, 8, 9);
        CHECK.same("a label is not part of a cell", server.cellAt(1, 0, 0, 7, 6), 0);
    }

    private static void questionsChangeNothing() {
        TileServer server = Recipes.mixed();
        String before = Check.stateOf(server);
        server.cellByDrawing(3, 4, 4, 0, 0);
        server.isFresh();
        server.areaIn(2, 3, 4, 4);
        server.crossesRight(1, 3, 4, 4);
        server.shownLabels(0);
        server.meanKept(0);
        CHECK.same("what stands after questions", Check.stateOf(server), before);
    }

    private static void tilesAreToldFromOneAnother() {
        TileServer server = new TileServer();
        server.cellAt(3, 2, 1, 0, 0);
        CHECK.same("the tile", server.isCached(3, 2, 1), true);
        CHECK.same("another column", server.isCached(3, 3, 1) || server.isCached(3, 1, 1), false);
        CHECK.same("another row", server.isCached(3, 2, 2) || server.isCached(3, 2, 0), false);
        CHECK.same("another level", server.isCached(2, 2, 1), false);
        CHECK.same("column and row changed", server.isCached(3, 1, 2), false);
        server.cellAt(3, 7, 7, 0, 0);
        CHECK.same("the last tile", server.isCached(3, 7, 7), true);
        CHECK.same("the first tile", server.isCached(3, 0, 0), false);
    }

    private static TileServer droppedTiles() {
        TileServer server = row(new TileServer(), 0, 5);
        server.addLine(9, 1, 10, 2);
        return server;
    }

    private static void ageOfATileThatIsNotInTheCache() {
        CHECK.refused("ageOf a tile that was never there", CacheEdgesTest::droppedTiles, NO_TILE, s -> s.ageOf(0, 0, 0));
        CHECK.refused("ageOf a tile that made room", CacheEdgesTest::droppedTiles, NO_TILE, s -> s.ageOf(3, 0, 0));
        CHECK.refused("ageOf a tile that left for a line", CacheEdgesTest::droppedTiles, NO_TILE, s -> s.ageOf(3, 1, 0));
        CHECK.taken("ageOf a tile that is there", CacheEdgesTest::droppedTiles, s -> s.ageOf(3, 2, 0));
        TileServer server = row(new TileServer(), 0, 0);
        server.pass(20);
        CHECK.same("ageOf a tile of the age 20", Check.answer(server, s -> s.ageOf(3, 0, 0)), NO_TILE.getName());
    }

    private static void agesFrom0To19() {
        TileServer server = new TileServer();
        server.pass(50);
        row(server, 0, 0);
        for (int age = 0; age < 20; age++) {
            CHECK.same("age", server.ageOf(3, 0, 0), age);
            server.pass(1);
        }
    }

    private static void cachedFromNoneToFive() {
        for (int count = 0; count <= 5; count++) {
            CHECK.same("so many tiles", row(new TileServer(), 1, count).cached(), count);
        }
        CHECK.same("after a sixth one", row(new TileServer(), 1, 6).cached(), 5);
        CHECK.same("after one that is there", row(row(new TileServer(), 0, 4), 2, 2).cached(), 5);
    }

    private static void missesFromNoneOn() {
        TileServer server = Recipes.plain();
        CHECK.same("one miss", server.misses(), 1);
        server.cellByDrawing(0, 0, 0, 0, 0);
        server.isCached(0, 0, 0);
        CHECK.same("after what is no miss", server.misses(), 1);
        server.cellAt(2, 1, 1, 7, 7);
        CHECK.same("after a hit", server.misses(), 1);
        server.pass(99);
        server.remove(1);
        CHECK.same("they stay", server.misses(), 1);
        CHECK.same("none", new TileServer().misses(), 0);
    }

    private static void missesOfAsManyCallsAsThereAre() {
        TileServer server = new TileServer();
        for (int i = 0; i < 511; i++) {
            server.cellAt(3, i % 6, 0, 0, 0);
        }
        CHECK.same("misses in the 512th call", server.misses(), 511);
    }

    private static TileServer onlyRefused() {
        TileServer server = Recipes.line(0, 0, 9, 9);
        Check.answer(server, s -> s.cellAt(0, 0, 0, 0, 8));
        server.cellByDrawing(0, 0, 0, 0, 0);
        return server;
    }

    private static void hitShareNeedsACall() {
        CHECK.refused("hitShare of nothing", TileServer::new, ArithmeticException.class, s -> s.hitShare());
        CHECK.refused("hitShare of a refused call", CacheEdgesTest::onlyRefused, ArithmeticException.class, s -> s.hitShare());
        CHECK.taken("hitShare of one call", Recipes::plain, s -> s.hitShare());
    }

    private static void hitShareOfMissesOnly() {
        TileServer server = row(new TileServer(), 0, 0);
        CHECK.same("one miss", server.hitShare(), 0f);
        row(server, 1, 7);
        CHECK.same("eight misses", server.hitShare(), 0f);
        server.cellAt(3, 7, 0, 1, 1);
        CHECK.same("a hit", server.hitShare(), 1f / 9f);
    }

    private static void hitShareOfAsManyHitsAsThereCanBe() {
        TileServer server = new TileServer();
        for (int i = 0; i < 511; i++) {
            server.cellAt(0, 0, 0, i % 8, i / 8 % 8);
        }
        CHECK.same("hitShare in the 512th call", server.hitShare(), 510f / 511f);
    }

    private static void drawnCountsFromNoneOn() {
        TileServer server = new TileServer();
        server.cellAt(0, 0, 0, 0, 0);
        CHECK.same("an empty tile", server.drawn(), 0L);
        server.addLine(0, 0, 0, 0);
        server.cellAt(0, 0, 0, 0, 0);
        CHECK.same("a tile with one cell", server.drawn(), 1L);
        server.addArea(32, 32, 20, 40);
        server.cellAt(3, 4, 4, 0, 0);
        CHECK.same("a full tile", server.drawn(), 65L);
    }

    private static void drawnCountsEachMiss() {
        TileServer server = Recipes.area(12, 12, 4, 8);
        for (int i = 1; i <= 3; i++) {
            server.cellAt(0, 0, 0, 7, 7);
            CHECK.same("drawn at each miss", server.drawn(), (long) i);
            server.cellAt(0, 0, 0, 1, 1);
            server.cellByDrawing(0, 0, 0, 1, 1);
            server.isFresh();
            CHECK.same("not drawn at a hit", server.drawn(), (long) i);
            server.pass(20);
        }
        server.remove(1);
        CHECK.same("after the shape was taken away", server.drawn(), 3L);
    }

    private static void drawnOfAsManyCallsAsThereAre() {
        TileServer server = Recipes.area(32, 32, 20, 40);
        for (int i = 0; i < 510; i++) {
            server.cellAt(3, 2 + i % 3, 2 + i / 3 % 2, 0, 0);
        }
        CHECK.same("drawn in the 512th call", server.drawn(), 510L * 64);
    }

    private static void anEmptyCacheIsFresh() {
        CHECK.same("a new server is fresh", new TileServer().isFresh(), true);
        CHECK.same("shapes without tiles are fresh", Recipes.line(0, 0, 64, 64).isFresh(), true);
    }

    private static void aFullCacheIsFresh() {
        TileServer server = Recipes.mixed();
        CHECK.same("tiles", server.cached(), 5);
        CHECK.same("a full cache is fresh", server.isFresh(), true);
        server.movePoint(1, 0, 64, 64);
        CHECK.same("fresh after a change", server.isFresh(), true);
        for (int i = 0; i < 4; i++) {
            server.cellAt(i, 0, 0, 0, 0);
            server.setTolerance(i, 9);
            CHECK.same("fresh after a tolerance", server.isFresh(), true);
        }
    }

    private static void aCachedTileIsWhatWouldBeDrawnNow() {
        List<Consumer<TileServer>> changes = List.of(
            s -> s.addLine(0, 0, 64, 64), s -> s.addArea(32, 32, 9, 9), s -> s.extend(1, 64, 0), s -> s.movePoint(1, 1, 0, 64),
            s -> s.moveArea(2, -20, 5), s -> s.setTolerance(0, 9), s -> s.pass(19), s -> s.dropPoint(1, 0), s -> s.remove(1));
        TileServer server = new TileServer();
        for (int i = 0; i < changes.size(); i++) {
            changes.get(i).accept(server);
            for (int x = 0; x < 8; x++) {
                for (int level = 0; level < 3; level++) {
                    String what = "the cell " + x + " at " + level + " after change " + i;
                    CHECK.same(what, server.cellAt(level, 0, 0, x, x), server.cellByDrawing(level, 0, 0, x, x));
                }
            }
        }
    }
}
