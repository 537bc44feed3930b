/** Edges of the document's promises 28 to 32: what areas and lines have in common with tiles; one test for each sentence. */
public final class BorderEdgesTest {
    private static final Check CHECK = new Check();

    public static void main(String[] args) {
        anAreaWithinATile();
        anAreaThatEndsAtABorder();
        anAreaThatGoesBeyondABorderBy1();
        anAreaThatTouchesACorner();
        anAreaWhoseAslantSideTouchesACorner();
        anAreaThatContainsATile();
        anAreaFarFromATile();
        anAreaBeyondTheMap();
        theLeastAreaCutInFour();
        theGreatestAreaCutAtEachLevel();
        aCutBetweenTheReachAndTwiceTheReach();
        areasInTheFirstAndTheLastTile();
        allTilesHaveTheWholeArea();
        noneOf8CellsIsCrossed();
        all8CellsAreCrossed();
        aLineBetweenTwoCellsCrossesBoth();
        aLineThroughACornerOfATileCrossesOneCellOfIt();
        aLineThatEndsOnTheBorderCrossesIt();
        aLineThatEndsBeforeTheBorderDoesNotCrossIt();
        aLineThatBeginsOnTheBorderCrossesIt();
        aLineAlongTheBorderCrossesAllItsCells();
        aLineAlongTheBorderOfAnotherTileReachesTheCorner();
        aLineAtOnePlaceCrossesWhereItLies();
        aCellCountsOnceForSeveralSegments();
        theBordersOfTheMapCanBeCrossed();
        rightAndLeftAreTheSidesOfTheTile();
        onlySegmentsAtTheLevelCross();
        onlyTheLineAskedForCounts();
        eachBorderOfEachTileCanBeCrossed();
        noSegmentsWithoutLines();
        asManySegmentsAsThereMayBe();
        aSegmentThatTouchesABorderIsInBothTiles();
        aSegmentThatTouchesACornerIsInFourTiles();
        aSegmentThatPassesACornerIsInFourTiles();
        aSegmentThatPassesBesideACornerIsInThreeTiles();
        aSegmentWithoutAnEndInTheTileIsInIt();
        aSegmentOfOnePlaceIsASegment();
        segmentsAreThoseAtTheLevel();
        segmentsOfAllLinesCountAndNoneOfAreas();
        segmentsLeadFromEachPointToTheNextOne();
        CHECK.end();
    }

    /** Checks both ways of measuring what the area and a tile have in common. */
    private static void inTile(TileServer server, int level, int column, int row, int due) {
        String where = " at " + level + ", " + column + ", " + row;
        CHECK.same("areaIn" + where, server.areaIn(1, level, column, row), due);
        CHECK.same("areaByQuarters" + where, server.areaByQuarters(1, level, column, row), due);
    }

    private static void anAreaWithinATile() {
        inTile(Recipes.area(16, 16, 15, 30), 1, 0, 0, 4 * 900);
        inTile(Recipes.area(16, 16, 15, 15), 1, 0, 0, 4 * 450);
        inTile(Recipes.area(12, 12, 3, 6), 3, 1, 1, 4 * 36);
    }

    private static void anAreaThatEndsAtABorder() {
        TileServer server = Recipes.area(20, 20, 4, 8);
        inTile(server, 3, 2, 2, 4 * 64);
        int[][] beside = {{1, 2}, {3, 2}, {2, 1}, {2, 3}};
        for (int[] tile : beside) {
            inTile(server, 3, tile[0], tile[1], 0);
        }
        server = Recipes.area(20, 20, 4, 4);
        inTile(server, 3, 2, 2, 4 * 32);
        for (int[] tile : beside) {
            inTile(server, 3, tile[0], tile[1], 0);
        }
    }

    private static void anAreaThatGoesBeyondABorderBy1() {
        inTile(Recipes.area(21, 20, 4, 8), 3, 3, 2, 4 * 8);
        inTile(Recipes.area(19, 20, 4, 8), 3, 1, 2, 4 * 8);
        inTile(Recipes.area(20, 21, 4, 8), 3, 2, 3, 4 * 8);
        inTile(Recipes.area(20, 19, 4, 8), 3, 2, 1, 4 * 8);
        // The tip of a diamond is 1 high and 2 wide.
        inTile(Recipes.area(21, 20, 4, 4), 3, 3, 2, 4);
        inTile(Recipes.area(19, 20, 4, 4), 3, 1, 2, 4);
        inTile(Recipes.area(20, 21, 4, 4), 3, 2, 3, 4);
        inTile(Recipes.area(20, 19, 4, 4), 3, 2, 1, 4);
    }

    private static void anAreaThatTouchesACorner() {
        TileServer server = Recipes.area(20, 20, 4, 8);
        int[][] aslant = {{1, 1}, {3, 1}, {1, 3}, {3, 3}};
        for (int[] tile : aslant) {
            inTile(server, 3, tile[0], tile[1], 0);
        }
        server.moveArea(1, 1, 1);
        inTile(server, 3, 3, 3, 4);
        server.moveArea(1, -2, -2);
        inTile(server, 3, 1, 1, 4);
    }

    private static void anAreaWhoseAslantSideTouchesACorner() {
        int[][] aslant = {{1, 1}, {3, 1}, {1, 3}, {3, 3}};
        for (int[] tile : aslant) {
            inTile(Recipes.area(20, 20, 8, 8), 3, tile[0], tile[1], 0);
            // Half of a square of the side 1 lies beyond the corner, or half of one of the side 2.
            inTile(Recipes.area(20, 20, 8, 9), 3, tile[0], tile[1], 2);
            inTile(Recipes.area(20, 20, 8, 10), 3, tile[0], tile[1], 8);
        }
    }

    private static void anAreaThatContainsATile() {
        inTile(Recipes.area(20, 20, 20, 40), 3, 2, 2, 4 * 64);
        inTile(Recipes.area(20, 20, 8, 8), 3, 2, 2, 4 * 64);
        inTile(Recipes.area(20, 20, 7, 7), 3, 2, 2, 4 * 64 - 4 * 2);
        inTile(Recipes.area(24, 24, 8, 16), 2, 1, 1, 4 * 256);
    }

    private static void anAreaFarFromATile() {
        inTile(Recipes.area(10, 10, 5, 10), 3, 7, 7, 0);
        inTile(Recipes.area(10, 10, 5, 10), 1, 1, 0, 0);
        inTile(Recipes.area(60, 60, 4, 4), 3, 0, 7, 0);
    }

    private static void anAreaBeyondTheMap() {
        inTile(Recipes.area(0, 0, 20, 40), 0, 0, 0, 4 * 400);
        inTile(Recipes.area(64, 64, 20, 40), 0, 0, 0, 4 * 400);
        inTile(Recipes.area(0, 64, 20, 20), 0, 0, 0, 4 * 200);
        inTile(Recipes.area(64, 0, 1, 1), 3, 7, 0, 2);
        inTile(Recipes.area(64, 32, 1, 1), 3, 7, 3, 2);
        inTile(Recipes.area(64, 32, 1, 2), 3, 7, 4, 4);
        inTile(Recipes.area(0, 4, 3, 6), 3, 0, 0, 4 * 18);
    }

    private static void theLeastAreaCutInFour() {
        for (int column = 3; column <= 4; column++) {
            for (int row = 3; row <= 4; row++) {
                inTile(Recipes.area(32, 32, 1, 1), 3, column, row, 2);
                inTile(Recipes.area(32, 32, 1, 2), 3, column, row, 4);
            }
        }
    }

    private static void theGreatestAreaCutAtEachLevel() {
        TileServer server = Recipes.area(32, 32, 20, 40);
        inTile(server, 0, 0, 0, 4 * 1600);
        inTile(server, 1, 0, 1, 4 * 400);
        inTile(server, 2, 0, 0, 4 * 16);
        inTile(server, 2, 1, 2, 4 * 256);
        inTile(server, 3, 1, 1, 4 * 16);
        inTile(server, 3, 6, 5, 4 * 32);
        inTile(server, 3, 7, 7, 0);
    }

    private static void aCutBetweenTheReachAndTwiceTheReach() {
        // Of 4 * 8 * 8 quarters, each corner lacks half of a square of the side 2 * reach - cut.
        for (int cut = 4; cut <= 8; cut++) {
            int lacking = 2 * (8 - cut) * (8 - cut);
            inTile(Recipes.area(20, 20, 4, cut), 0, 0, 0, 256 - 4 * lacking);
            inTile(Recipes.area(16, 16, 4, cut), 2, 1, 1, 64 - lacking);
            inTile(Recipes.area(16, 16, 4, cut), 2, 0, 1, 64 - lacking);
        }
    }

    private static void areasInTheFirstAndTheLastTile() {
        for (int level = 0; level < 4; level++) {
            int last = (1 << level) - 1;
            inTile(Recipes.area(2, 2, 2, 4), level, 0, 0, 64);
            inTile(Recipes.area(62, 62, 2, 4), level, last, last, 64);
            inTile(Recipes.area(2, 62, 2, 4), level, 0, last, 64);
            inTile(Recipes.area(62, 2, 2, 4), level, last, 0, 64);
        }
    }

    private static void allTilesHaveTheWholeArea() {
        for (int reach = 1; reach <= 20; reach++) {
            for (int cut = reach; cut <= 2 * reach; cut++) {
                int lacking = 2 * reach - cut;
                CHECK.same("the sum for " + reach + ", " + cut, sumOfTiles(Recipes.area(32, 29, reach, cut)), 16 * reach * reach - 8 * lacking * lacking);
            }
        }
    }

    private static int sumOfTiles(TileServer server) {
        int sum = 0;
        for (int column = 0; column < 8; column++) {
            for (int row = 0; row < 8; row++) {
                int part = server.areaIn(1, 3, column, row);
                inTile(server, 3, column, row, part);
                sum += part;
            }
        }
        return sum;
    }

    private static void right(TileServer server, int level, int column, int row, int due) {
        CHECK.same("crossesRight at " + level + ", " + column + ", " + row, server.crossesRight(1, level, column, row), due);
    }

    private static void left(TileServer server, int level, int column, int row, int due) {
        CHECK.same("crossesLeft at " + level + ", " + column + ", " + row, server.crossesLeft(1, level, column, row), due);
    }

    /** Checks the border between two tiles from both sides. */
    private static void border(TileServer server, int level, int column, int row, int due) {
        right(server, level, column, row, due);
        left(server, level, column + 1, row, due);
    }

    private static void noneOf8CellsIsCrossed() {
        border(Recipes.line(1, 1, 30, 30), 1, 0, 0, 0);
        border(Recipes.line(1, 40, 64, 40), 1, 0, 0, 0);
        border(Recipes.line(33, 1, 64, 30), 1, 0, 0, 0);
        border(Recipes.line(10, 10, 10, 10), 3, 6, 6, 0);
    }

    private static void all8CellsAreCrossed() {
        border(Recipes.line(32, 0, 32, 64), 1, 0, 0, 8);
        border(Recipes.line(32, 0, 32, 64), 1, 0, 1, 8);
        border(Recipes.line(24, 33, 24, 39), 3, 2, 4, 8);
        border(Recipes.line(24, 32, 24, 40), 3, 2, 4, 8);
        border(Recipes.line(24, 34, 24, 39), 3, 2, 4, 7);
        // From one side to the other in the middle of each cell.
        TileServer server = Recipes.line(31, 0, 33, 4, 31, 8, 33, 12, 31, 16, 33, 20, 31, 24, 33, 28, 31, 32);
        server.setTolerance(1, 0);
        border(server, 1, 0, 0, 8);
        server.dropPoint(1, 8);
        border(server, 1, 0, 0, 7);
    }

    private static void aLineBetweenTwoCellsCrossesBoth() {
        border(Recipes.line(20, 16, 40, 16), 1, 0, 0, 2);
        border(Recipes.line(20, 17, 40, 17), 1, 0, 0, 1);
        border(Recipes.line(20, 15, 40, 15), 1, 0, 0, 1);
        border(Recipes.line(4, 21, 12, 21), 3, 0, 2, 2);
    }

    private static void aLineThroughACornerOfATileCrossesOneCellOfIt() {
        TileServer server = Recipes.line(20, 32, 40, 32);
        border(server, 1, 0, 0, 1);
        border(server, 1, 0, 1, 1);
        border(Recipes.line(31, 31, 33, 33), 1, 0, 0, 1);
        border(Recipes.line(31, 31, 33, 33), 1, 0, 1, 1);
        border(Recipes.line(31, 33, 33, 31), 1, 0, 0, 1);
        border(Recipes.line(31, 33, 33, 31), 1, 0, 1, 1);
        // It passes the corner at a distance.
        border(Recipes.line(31, 33, 33, 32), 1, 0, 0, 0);
        border(Recipes.line(31, 31, 33, 32), 1, 0, 1, 0);
    }

    private static void aLineThatEndsOnTheBorderCrossesIt() {
        border(Recipes.line(10, 10, 32, 10), 1, 0, 0, 1);
        border(Recipes.line(50, 10, 32, 10), 1, 0, 0, 1);
        border(Recipes.line(10, 10, 32, 12), 1, 0, 0, 2);
        border(Recipes.line(10, 10, 32, 32), 1, 0, 0, 1);
        border(Recipes.line(10, 10, 32, 32), 1, 0, 1, 1);
    }

    private static void aLineThatEndsBeforeTheBorderDoesNotCrossIt() {
        border(Recipes.line(10, 10, 31, 10), 1, 0, 0, 0);
        border(Recipes.line(50, 10, 33, 10), 1, 0, 0, 0);
        border(Recipes.line(10, 10, 31, 31), 1, 0, 0, 0);
        border(Recipes.line(32, 33, 40, 60), 1, 0, 0, 0);
    }

    private static void aLineThatBeginsOnTheBorderCrossesIt() {
        border(Recipes.line(32, 10, 40, 10), 1, 0, 0, 1);
        border(Recipes.line(32, 10, 10, 10), 1, 0, 0, 1);
        border(Recipes.line(32, 32, 40, 60), 1, 0, 0, 1);
        border(Recipes.line(32, 0, 40, 0), 1, 0, 0, 1);
    }

    private static void aLineAlongTheBorderCrossesAllItsCells() {
        border(Recipes.line(32, 5, 32, 7), 1, 0, 0, 1);
        border(Recipes.line(32, 5, 32, 8), 1, 0, 0, 2);
        border(Recipes.line(32, 4, 32, 8), 1, 0, 0, 3);
        border(Recipes.line(32, 27, 32, 40), 1, 0, 0, 2);
        border(Recipes.line(32, 27, 32, 40), 1, 0, 1, 3);
    }

    private static void aLineAlongTheBorderOfAnotherTileReachesTheCorner() {
        TileServer server = Recipes.line(32, 32, 32, 60);
        border(server, 1, 0, 0, 1);
        border(server, 1, 0, 1, 8);
        border(Recipes.line(32, 33, 32, 60), 1, 0, 0, 0);
    }

    private static void aLineAtOnePlaceCrossesWhereItLies() {
        border(Recipes.line(32, 9, 32, 9), 1, 0, 0, 1);
        border(Recipes.line(32, 8, 32, 8), 1, 0, 0, 2);
        border(Recipes.line(32, 0, 32, 0), 1, 0, 0, 1);
        border(Recipes.line(31, 9, 31, 9), 1, 0, 0, 0);
        border(Recipes.line(33, 9, 33, 9), 1, 0, 0, 0);
    }

    private static void aCellCountsOnceForSeveralSegments() {
        border(Recipes.line(20, 1, 40, 2, 20, 3), 1, 0, 0, 1);
        border(Recipes.line(20, 8, 40, 8, 20, 8), 1, 0, 0, 2);
        border(Recipes.line(20, 1, 60, 1, 60, 30, 20, 30), 1, 0, 0, 2);
    }

    private static void theBordersOfTheMapCanBeCrossed() {
        for (int level = 0; level < 4; level++) {
            int last = (1 << level) - 1;
            right(Recipes.line(64, 0, 64, 64), level, last, last, 8);
            left(Recipes.line(0, 64, 0, 0), level, 0, last, 8);
            right(Recipes.line(64, 64, 63, 63), level, last, last, 1);
            left(Recipes.line(0, 0, 1, 1), level, 0, 0, 1);
            right(Recipes.line(63, 0, 63, 64), level, last, 0, 0);
            left(Recipes.line(1, 0, 1, 64), level, 0, 0, 0);
        }
    }

    private static void rightAndLeftAreTheSidesOfTheTile() {
        TileServer server = Recipes.line(16, 1, 16, 15);
        right(server, 2, 0, 0, 8);
        left(server, 2, 0, 0, 0);
        left(server, 2, 1, 0, 8);
        right(server, 2, 1, 0, 0);
        right(server, 1, 0, 0, 0);
        left(server, 1, 0, 0, 0);
        right(server, 2, 0, 1, 0);
        left(server, 2, 1, 1, 0);
    }

    private static void onlySegmentsAtTheLevelCross() {
        // The point between is 5 away from the straight line, and 2 beyond the border.
        TileServer server = Recipes.line(29, 1, 34, 15, 29, 29);
        border(server, 1, 0, 0, 2);
        server.setTolerance(1, 5);
        border(server, 1, 0, 0, 0);
        // This one crosses the border at 24, between two cells, if its second point is kept, else within a cell.
        server = Recipes.line(30, 1, 29, 21, 34, 26);
        border(server, 1, 0, 0, 2);
        server.setTolerance(1, 5);
        border(server, 1, 0, 0, 1);
    }

    private static void onlyTheLineAskedForCounts() {
        TileServer server = Recipes.line(1, 1, 2, 2);
        server.addLine(20, 10, 40, 10);
        border(server, 1, 0, 0, 0);
        CHECK.same("the other line, right", server.crossesRight(2, 1, 0, 0), 1);
        CHECK.same("the other line, left", server.crossesLeft(2, 1, 1, 0), 1);
    }

    private static void eachBorderOfEachTileCanBeCrossed() {
        for (int level = 1; level < 4; level++) {
            int side = 64 >> level;
            for (int column = 0; column + 1 < 1 << level; column++) {
                for (int row = 0; row < 1 << level; row++) {
                    int x = side * (column + 1);
                    int y = side * row;
                    border(Recipes.line(x - 1, y, x + 1, y + 1), level, column, row, 1);
                    border(Recipes.line(x + 1, y + side - 1, x - 1, y + side), level, column, row, 1);
                    border(Recipes.line(x, y + 1, x, y + side - 1), level, column, row, 8);
                    right(Recipes.line(x - 1, y, x - 1, y + side), level, column, row, 0);
                    left(Recipes.line(x + 1, y, x + 1, y + side), level, column + 1, row, 0);
                }
            }
        }
    }

    private static void segments(TileServer server, int level, int column, int row, int due) {
        CHECK.same("segmentsIn at " + level + ", " + column + ", " + row, server.segmentsIn(level, column, row), due);
    }

    private static void noSegmentsWithoutLines() {
        segments(new TileServer(), 0, 0, 0, 0);
        segments(Recipes.area(32, 32, 20, 40), 0, 0, 0, 0);
        TileServer server = Recipes.plain();
        server.remove(1);
        segments(server, 0, 0, 0, 0);
    }

    private static void asManySegmentsAsThereMayBe() {
        TileServer server = new TileServer();
        for (int line = 1; line <= 12; line++) {
            server.addLine(33, 33, 40, 60);
            for (int i = 2; i < 9; i++) {
                server.extend(line, i % 2 == 0 ? 33 : 40, i % 2 == 0 ? 33 + i : 60 - i);
            }
        }
        server.setTolerance(0, 0);
        server.setTolerance(1, 0);
        segments(server, 0, 0, 0, 96);
        segments(server, 1, 1, 1, 96);
        segments(server, 1, 0, 0, 0);
    }

    private static void aSegmentThatTouchesABorderIsInBothTiles() {
        TileServer server = Recipes.line(32, 5, 40, 10);
        segments(server, 1, 0, 0, 1);
        segments(server, 1, 1, 0, 1);
        segments(Recipes.line(33, 5, 40, 10), 1, 0, 0, 0);
        segments(Recipes.line(5, 32, 10, 40), 1, 0, 0, 1);
        segments(Recipes.line(5, 33, 10, 40), 1, 0, 0, 0);
        segments(Recipes.line(32, 40, 40, 50), 1, 0, 0, 0);
        segments(Recipes.line(5, 31, 10, 20), 1, 0, 1, 0);
        segments(Recipes.line(5, 32, 10, 20), 1, 0, 1, 1);
        segments(Recipes.line(5, 31, 31, 20), 1, 1, 0, 0);
        segments(Recipes.line(5, 31, 32, 20), 1, 1, 0, 1);
    }

    private static void inFour(int due00, int due10, int due01, int due11, int... coordinates) {
        TileServer server = Recipes.line(coordinates);
        segments(server, 1, 0, 0, due00);
        segments(server, 1, 1, 0, due10);
        segments(server, 1, 0, 1, due01);
        segments(server, 1, 1, 1, due11);
        segments(server, 0, 0, 0, 1);
    }

    private static void aSegmentThatTouchesACornerIsInFourTiles() {
        inFour(1, 1, 1, 1, 32, 32, 40, 50);
        inFour(1, 1, 1, 1, 20, 10, 32, 32);
        inFour(1, 1, 1, 1, 32, 32, 32, 32);
    }

    private static void aSegmentThatPassesACornerIsInFourTiles() {
        inFour(1, 1, 1, 1, 0, 0, 64, 64);
        inFour(1, 1, 1, 1, 31, 33, 33, 31);
        inFour(1, 1, 1, 1, 28, 31, 36, 33);
    }

    private static void aSegmentThatPassesBesideACornerIsInThreeTiles() {
        inFour(1, 1, 0, 1, 0, 0, 64, 63);
        inFour(1, 0, 1, 1, 0, 0, 63, 64);
        inFour(1, 1, 1, 0, 31, 33, 33, 30);
        inFour(0, 1, 1, 1, 31, 34, 33, 31);
        inFour(1, 1, 0, 0, 0, 31, 64, 31);
        inFour(0, 0, 1, 1, 0, 33, 64, 33);
    }

    private static void aSegmentWithoutAnEndInTheTileIsInIt() {
        TileServer server = Recipes.line(0, 20, 64, 20);
        for (int column = 0; column < 8; column++) {
            segments(server, 3, column, 2, 1);
            segments(server, 3, column, 1, 0);
            segments(server, 3, column, 3, 0);
        }
        segments(Recipes.line(0, 28, 28, 0), 3, 1, 1, 1);
        segments(Recipes.line(0, 33, 33, 0), 3, 1, 1, 0);
        segments(Recipes.line(0, 32, 32, 0), 3, 1, 1, 1);
    }

    private static void aSegmentOfOnePlaceIsASegment() {
        inFour(1, 0, 0, 0, 5, 5, 5, 5);
        inFour(0, 0, 0, 1, 64, 64, 64, 64);
        inFour(1, 0, 0, 0, 5, 5, 5, 5, 5, 5);
    }

    private static void segmentsAreThoseAtTheLevel() {
        TileServer server = Recipes.line(1, 1, 20, 4, 40, 1);
        segments(server, 0, 0, 0, 1);
        server.setTolerance(0, 2);
        segments(server, 0, 0, 0, 2);
        server.setTolerance(0, 3);
        segments(server, 0, 0, 0, 1);
        segments(server, 1, 0, 0, 2);
    }

    private static void segmentsOfAllLinesCountAndNoneOfAreas() {
        TileServer server = Recipes.line(1, 1, 60, 60);
        server.addArea(5, 5, 5, 5);
        server.addLine(1, 2, 3, 4);
        server.addLine(50, 50, 60, 60);
        segments(server, 1, 0, 0, 2);
        segments(server, 1, 1, 1, 2);
        segments(server, 0, 0, 0, 3);
        server.remove(1);
        segments(server, 0, 0, 0, 2);
    }

    private static void segmentsLeadFromEachPointToTheNextOne() {
        // The straight line from the first to the last point goes through the tiles of the diagonal.
        TileServer server = Recipes.line(1, 1, 62, 2, 63, 63);
        for (int i = 1; i <= 6; i++) {
            segments(server, 3, i, i, 0);
            segments(server, 3, i, 0, 1);
            segments(server, 3, 7, i, 1);
        }
        segments(server, 3, 0, 0, 1);
        segments(server, 3, 7, 0, 2);
        segments(server, 3, 7, 7, 1);
    }
}
