import java.util.function.Supplier;

/** Edges of 'Map' and 'Drawing' in the document, and of its promises 21 and 22; one test for each sentence. */
public final class DrawingEdgesTest {
    private static final Check CHECK = new Check();

    public static void main(String[] args) {
        thereAre1And2And4And8ColumnsAndRowsOfTiles();
        cellsAreNumberedByAscendingCoordinates();
        cellsHaveTheSides8And4And2And1();
        aPointOnABorderShowsOnBothSides();
        aPointInACornerShowsInFourCells();
        aPointBesideABorderShowsOnItsSide();
        pointsInTheCornersOfTheMapShowInOneCell();
        bordersOfTilesBelongToBothTiles();
        aLineAlongABorderShowsOnBothSides();
        aLineThroughACornerShowsInAllFourCells();
        aLineJustBesideACornerShowsInThree();
        aLineThatCutsACornerOffShowsInThree();
        aLineThatEndsOnABorderShowsBehindIt();
        aLineWithoutAPointOfItsOwnInACellShowsThere();
        aLineShowsByItsSegmentsAtTheLevel();
        aLineOfSeveralSegmentsShowsByEachOfThem();
        anAreaShowsWhereItsSizeIsGreaterThan0();
        anAreaDoesNotShowWhereOnlyItsBorderTouches();
        anAreaDoesNotShowWhereOnlyACornerTouches();
        anAreaDoesNotShowWhereOnlyAnAslantSideTouches();
        anAreaShowsWhereTheLeastPartIsInside();
        theLeastAndTheGreatestAreaShow();
        whatLiesOutsideOfTheMapIsNotShown();
        aCellShowsTheGreatestNumber();
        aCellShowsTheGreatestNumberThatIsLeft();
        aCellShows0ForNone();
        linesAndAreasAreShownByNumberOnly();
        aTileIsDrawnWithAllOfItsCells();
        CHECK.end();
    }

    /**
     * Tells which cells show the shape 1, by their columns and rows among all cells of the level. Each tile is asked
     * for on a server of its own, since one may be asked only 512 times.
     */
    private static String cells(Supplier<TileServer> recipe, int level) {
        StringBuilder asked = new StringBuilder();
        StringBuilder drawn = new StringBuilder();
        for (int i = 0; i < 1 << 2 * level; i++) {
            TileServer server = recipe.get();
            int column = i >> level;
            int row = i % (1 << level);
            for (int x = 0; x < 8; x++) {
                for (int y = 0; y < 8; y++) {
                    String cell = " " + (8 * column + x) + "," + (8 * row + y);
                    asked.append(server.cellAt(level, column, row, x, y) == 1 ? cell : "");
                    drawn.append(server.cellByDrawing(level, column, row, x, y) == 1 ? cell : "");
                }
            }
        }
        CHECK.same("what cellByDrawing tells", drawn.toString(), asked.toString());
        return asked.toString();
    }

    /** Checks the cells of a line, from its first point to its last one and the other way round. */
    private static void line(int level, String due, int... coordinates) {
        CHECK.same("cells of a line at level " + level, cells(() -> Recipes.line(coordinates), level), due);
        int[] back = new int[coordinates.length];
        for (int i = 0; i < back.length; i += 2) {
            back[i] = coordinates[back.length - 2 - i];
            back[i + 1] = coordinates[back.length - 1 - i];
        }
        CHECK.same("cells of a line back at level " + level, cells(() -> Recipes.line(back), level), due);
    }

    private static void area(int level, String due, int x, int y, int reach, int cut) {
        CHECK.same("cells of an area at level " + level, cells(() -> Recipes.area(x, y, reach, cut), level), due);
    }

    private static void thereAre1And2And4And8ColumnsAndRowsOfTiles() {
        int[] last = {0, 1, 3, 7};
        for (int level = 0; level < 4; level++) {
            TileServer server = Recipes.line(64, 64, 64, 64);
            server.addLine(0, 0, 0, 0);
            CHECK.same("the last tile of " + level, server.cellAt(level, last[level], last[level], 7, 7), 1);
            CHECK.same("the first tile of " + level, server.cellAt(level, 0, 0, 0, 0), 2);
        }
    }

    private static void cellsAreNumberedByAscendingCoordinates() {
        TileServer server = Recipes.line(63, 1, 63, 1);
        CHECK.same("the last column, the first row", server.cellByDrawing(0, 0, 0, 7, 0), 1);
        CHECK.same("the first column, the last row", server.cellByDrawing(0, 0, 0, 0, 7), 0);
        CHECK.same("the last tile of the first row", server.cellAt(2, 3, 0, 7, 0), 1);
        CHECK.same("the first tile of the last row", server.cellAt(2, 0, 3, 0, 7), 0);
        CHECK.same("the first cell of the last tile of the first row", server.cellAt(2, 3, 0, 0, 0), 0);
    }

    private static void cellsHaveTheSides8And4And2And1() {
        area(0, " 1,1", 12, 12, 4, 8);
        area(1, " 1,1", 6, 6, 2, 4);
        area(2, " 1,1", 3, 3, 1, 2);
        area(3, " 2,2 2,3 3,2 3,3", 3, 3, 1, 2);
        area(1, " 7,7", 30, 30, 2, 4);
        area(1, " 8,8", 34, 34, 2, 4);
        area(2, " 7,8", 15, 17, 1, 2);
        area(2, " 31,31", 63, 63, 1, 2);
    }

    private static void aPointOnABorderShowsOnBothSides() {
        line(0, " 1,2 2,2", 16, 20, 16, 20);
        line(0, " 2,1 2,2", 20, 16, 20, 16);
        line(1, " 3,4 4,4", 16, 18, 16, 18);
        line(2, " 4,7 4,8", 9, 16, 9, 16);
    }

    private static void aPointInACornerShowsInFourCells() {
        line(0, " 1,1 1,2 2,1 2,2", 16, 16, 16, 16);
        line(1, " 3,3 3,4 4,3 4,4", 16, 16, 16, 16);
        line(2, " 6,8 6,9 7,8 7,9", 14, 18, 14, 18);
        line(3, " 20,40 20,41 21,40 21,41", 21, 41, 21, 41);
    }

    private static void aPointBesideABorderShowsOnItsSide() {
        line(0, " 1,1", 15, 15, 15, 15);
        line(0, " 2,2", 17, 17, 17, 17);
        line(1, " 3,4", 15, 17, 15, 17);
        line(2, " 7,7", 15, 15, 15, 15);
    }

    private static void pointsInTheCornersOfTheMapShowInOneCell() {
        for (int level = 0; level < 4; level++) {
            int last = (8 << level) - 1;
            line(level, " 0,0", 0, 0, 0, 0);
            line(level, " 0," + last, 0, 64, 0, 64);
            line(level, " " + last + ",0", 64, 0, 64, 0);
            line(level, " " + last + "," + last, 64, 64, 64, 64);
        }
    }

    private static void bordersOfTilesBelongToBothTiles() {
        line(1, " 7,7 7,8 8,7 8,8", 32, 32, 32, 32);
        line(2, " 23,7 23,8 24,7 24,8", 48, 16, 48, 16);
        line(3, " 7,55 7,56 8,55 8,56", 8, 56, 8, 56);
    }

    private static void aLineAlongABorderShowsOnBothSides() {
        // Its ends lie in corners, so that it shows one cell beyond them, too.
        line(0, " 3,1 3,2 3,3 4,1 4,2 4,3", 32, 16, 32, 24);
        line(0, " 3,2 4,2", 32, 17, 32, 23);
        line(0, " 2,3 2,4", 17, 32, 23, 32);
        line(0, " 0,0 0,1 0,2 0,3 0,4 0,5 0,6 0,7", 0, 0, 0, 64);
        line(0, " 7,0 7,1 7,2 7,3 7,4 7,5 7,6 7,7", 64, 64, 64, 0);
    }

    private static void aLineThroughACornerShowsInAllFourCells() {
        line(0, " 1,1 1,2 2,1 2,2", 15, 15, 17, 17);
        line(0, " 1,1 1,2 2,1 2,2", 15, 17, 17, 15);
        line(1, " 7,7 7,8 8,7 8,8", 30, 31, 34, 33);
    }

    private static void aLineJustBesideACornerShowsInThree() {
        line(0, " 1,1 2,1 2,2", 15, 14, 17, 17);
        line(0, " 1,1 1,2 2,2", 14, 15, 17, 17);
        line(0, " 1,2 2,1 2,2", 15, 17, 18, 15);
        // At 8, it is 7.875 high; at 56, 55.125: it misses all corners by an eighth and more.
        line(0, " 0,0 1,0 1,1 2,1 2,2 3,2 3,3 4,3 4,4 5,4 5,5 6,5 6,6 7,6 7,7", 0, 0, 64, 63);
    }

    private static void aLineThatCutsACornerOffShowsInThree() {
        // Each of the four corners of the cell of column 1 and row 1, with the cells on both sides.
        line(0, " 0,1 1,0 1,1", 7, 10, 10, 7);
        line(0, " 1,0 1,1 2,1", 14, 7, 17, 10);
        line(0, " 0,1 1,1 1,2", 7, 14, 10, 17);
        line(0, " 1,1 1,2 2,1", 14, 17, 17, 14);
    }

    private static void aLineThatEndsOnABorderShowsBehindIt() {
        line(0, " 1,2 2,2", 12, 20, 16, 21);
        line(0, " 1,2", 12, 20, 15, 21);
        line(0, " 1,2 2,2", 16, 20, 20, 21);
        line(0, " 2,1 2,2", 20, 12, 21, 16);
        line(0, " 2,2", 20, 17, 21, 20);
    }

    private static void aLineWithoutAPointOfItsOwnInACellShowsThere() {
        line(0, " 0,0 1,0 2,0 3,0 4,0 5,0 6,0 7,0", 1, 2, 63, 3);
        line(0, " 2,0 2,1 2,2 2,3", 18, 31, 19, 0);
        CHECK.same("a tile in the middle of a line", Recipes.line(1, 33, 63, 33).cellAt(3, 4, 4, 3, 0), 1);
    }

    private static void aLineShowsByItsSegmentsAtTheLevel() {
        // The point between is 4 away, which is kept but at level 0.
        line(0, " 0,0 1,0", 1, 6, 8, 10, 15, 6);
        line(1, " 0,1 1,1 1,2 2,1 2,2 3,1", 1, 6, 8, 10, 15, 6);
    }

    private static void aLineOfSeveralSegmentsShowsByEachOfThem() {
        line(0, " 0,0 0,1 0,2 0,3 1,3 2,0 2,1 2,2 2,3", 4, 4, 4, 28, 20, 28, 20, 4);
    }

    private static void anAreaShowsWhereItsSizeIsGreaterThan0() {
        area(0, " 1,2 2,2", 16, 20, 1, 2);
        area(0, " 1,1 1,2 2,1 2,2", 16, 16, 1, 1);
        area(1, " 7,7 7,8 8,7 8,8", 32, 32, 4, 4);
    }

    private static void anAreaDoesNotShowWhereOnlyItsBorderTouches() {
        area(0, " 2,2", 20, 20, 4, 8);
        area(0, " 2,2 3,2", 21, 20, 4, 8);
        area(0, " 1,2 2,2", 19, 20, 4, 8);
        area(0, " 2,2 2,3", 20, 21, 4, 8);
        area(0, " 2,1 2,2", 20, 19, 4, 8);
    }

    private static void anAreaDoesNotShowWhereOnlyACornerTouches() {
        // The tips of a diamond at the borders of a cell, and one of them beyond.
        area(0, " 2,2", 20, 20, 4, 4);
        area(0, " 2,2 3,2", 21, 20, 4, 4);
        // The corner of a square at that of a cell.
        area(1, " 1,1 1,2 2,1 2,2", 8, 8, 4, 8);
    }

    private static void anAreaDoesNotShowWhereOnlyAnAslantSideTouches() {
        area(1, " 0,0 0,1 1,0", 0, 0, 8, 8);
        area(1, " 0,14 0,15 1,15", 0, 64, 8, 8);
        area(1, " 14,0 15,0 15,1", 64, 0, 8, 8);
        area(1, " 14,15 15,14 15,15", 64, 64, 8, 8);
    }

    private static void anAreaShowsWhereTheLeastPartIsInside() {
        area(1, " 0,0 0,1 1,0 1,1", 0, 0, 8, 9);
        area(1, " 0,0 0,1 0,2 1,0 1,1 2,0", 0, 0, 9, 9);
        // A triangle with two sides of the length 1 is the least part.
        area(0, " 2,2 2,3 3,2 3,3", 24, 24, 1, 1);
    }

    private static void theLeastAndTheGreatestAreaShow() {
        area(3, " 31,31 31,32 32,31 32,32", 32, 32, 1, 1);
        TileServer server = Recipes.area(32, 32, 20, 40);
        CHECK.same("its first cell", server.cellByDrawing(3, 1, 1, 4, 4), 1);
        CHECK.same("the cell below", server.cellByDrawing(3, 1, 1, 4, 3), 0);
        CHECK.same("the cell to the left", server.cellByDrawing(3, 1, 1, 3, 4), 0);
        CHECK.same("its last cell", server.cellByDrawing(3, 6, 6, 3, 3), 1);
        CHECK.same("the cell above", server.cellByDrawing(3, 6, 6, 3, 4), 0);
        CHECK.same("the cell to the right", server.cellByDrawing(3, 6, 6, 4, 3), 0);
    }

    private static void whatLiesOutsideOfTheMapIsNotShown() {
        area(0, " 0,0", 0, 0, 8, 16);
        area(0, " 7,7", 64, 64, 8, 16);
        area(0, " 0,7 1,7", 8, 64, 8, 8);
    }

    private static TileServer twelveOnACell() {
        TileServer server = new TileServer();
        for (int i = 1; i <= 12; i++) {
            if (i % 2 == 0) {
                server.addArea(4, 4, 1, 2);
            } else {
                server.addLine(4, 4, 5, 5);
            }
        }
        return server;
    }

    private static void aCellShowsTheGreatestNumber() {
        TileServer server = twelveOnACell();
        CHECK.same("the greatest of 12", server.cellAt(0, 0, 0, 0, 0), 12);
        CHECK.same("the greatest of 12, drawn", server.cellByDrawing(0, 0, 0, 0, 0), 12);
        server.moveArea(2, 1, 1);
        server.movePoint(1, 0, 3, 3);
        CHECK.same("after changes of others", server.cellAt(0, 0, 0, 0, 0), 12);
        server.remove(1);
        server.addLine(4, 4, 4, 4);
        CHECK.same("a shape that was made later", server.cellAt(0, 0, 0, 0, 0), 13);
    }

    private static void aCellShowsTheGreatestNumberThatIsLeft() {
        TileServer server = twelveOnACell();
        for (int number = 12; number >= 1; number--) {
            CHECK.same("the greatest that is left", server.cellAt(0, 0, 0, 0, 0), number);
            server.remove(number);
        }
        CHECK.same("none is left", server.cellAt(0, 0, 0, 0, 0), 0);
    }

    private static void aCellShows0ForNone() {
        CHECK.same("a cell of an empty map", new TileServer().cellAt(3, 7, 7, 7, 7), 0);
        CHECK.same("a cell beside a shape", Recipes.area(32, 32, 1, 1).cellAt(0, 0, 0, 2, 3), 0);
        CHECK.same("a drawn cell beside a shape", Recipes.area(32, 32, 1, 1).cellByDrawing(0, 0, 0, 3, 2), 0);
    }

    private static void linesAndAreasAreShownByNumberOnly() {
        TileServer server = Recipes.area(20, 20, 3, 6);
        server.addLine(18, 18, 22, 22);
        CHECK.same("a line over an area", server.cellAt(0, 0, 0, 2, 2), 2);
        server = Recipes.line(18, 18, 22, 22);
        server.addArea(20, 20, 3, 6);
        CHECK.same("an area over a line", server.cellAt(0, 0, 0, 2, 2), 2);
    }

    private static void aTileIsDrawnWithAllOfItsCells() {
        TileServer server = Recipes.area(32, 32, 20, 40);
        for (int i = 0; i < 64; i++) {
            CHECK.same("a cell of a full tile", server.cellAt(3, 4, 4, i / 8, i % 8), 1);
        }
        CHECK.same("it was drawn once", server.misses(), 1);
        CHECK.same("with all cells", server.drawn(), 64L);
    }
}
