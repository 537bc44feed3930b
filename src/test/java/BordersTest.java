import java.util.NoSuchElementException;

/** Promises 28 to 32: areas that are cut at the borders of tiles, and lines that cross them. */
public final class BordersTest {
    private static final Class<?> NO_SHAPE = NoSuchElementException.class;
    private static final Class<?> OTHER_KIND = UnsupportedOperationException.class;
    private static final Class<?> NO_INDEX = IndexOutOfBoundsException.class;
    private static final int[] NO_TILES = {-1, 8, Integer.MIN_VALUE, Integer.MAX_VALUE};
    private static final int[] NO_NUMBERS = {-1, 0, 3, Integer.MIN_VALUE, Integer.MAX_VALUE};
    private static final Check CHECK = new Check();

    public static void main(String[] args) {
        wholeAreas();
        areasBeyondTheMap();
        areasCutAtBorders();
        cornersCutAslant();
        everyAreaByBothWays();
        promises28And29Refuse();
        linesAcrossABorder();
        linesAlongABorder();
        linesThatTouchABorder();
        simplifiedLinesAtABorder();
        bothSidesOfABorderAgree();
        promises30And31Refuse();
        promise32SegmentsIn();
        promise32Refuses();
        CHECK.end();
    }

    private static TileServer lineAndArea() {
        TileServer server = new TileServer();
        server.addLine(8, 8, 50, 40);
        server.addArea(32, 32, 8, 12);
        server.cellAt(2, 1, 1, 0, 0);
        return server;
    }

    /** Checks both ways of measuring what an area and a tile have in common. */
    private static void inTile(String what, TileServer server, int level, int column, int row, int due) {
        CHECK.same(what + ", areaIn", server.areaIn(1, level, column, row), due);
        CHECK.same(what + ", areaByQuarters", server.areaByQuarters(1, level, column, row), due);
    }

    private static void wholeAreas() {
        inTile("a square", Recipes.area(32, 32, 20, 40), 0, 0, 0, 4 * 1600);
        inTile("a diamond", Recipes.area(32, 32, 20, 20), 0, 0, 0, 4 * 800);
        // Four corners are cut off, each of them half of a square of the side 2 * reach - cut.
        inTile("a cut square", Recipes.area(32, 32, 8, 12), 0, 0, 0, 4 * 256 - 4 * 2 * 16);
        inTile("an odd cut", Recipes.area(32, 32, 8, 13), 0, 0, 0, 4 * 256 - 4 * 2 * 9);
        inTile("the least diamond", Recipes.area(5, 5, 1, 1), 3, 0, 0, 8);
        inTile("the least square", Recipes.area(5, 5, 1, 2), 3, 0, 0, 16);
    }

    private static void areasBeyondTheMap() {
        inTile("a diamond in the corner", Recipes.area(0, 0, 4, 4), 0, 0, 0, 32);
        inTile("a diamond in the other corner", Recipes.area(64, 64, 4, 4), 0, 0, 0, 32);
        inTile("a square at the upper border", Recipes.area(32, 64, 4, 8), 0, 0, 0, 128);
        inTile("a tile far from the area", Recipes.area(0, 0, 4, 4), 3, 7, 7, 0);
    }

    private static void areasCutAtBorders() {
        TileServer server = Recipes.area(33, 30, 8, 16);
        inTile("lower left", server, 1, 0, 0, 4 * 7 * 10);
        inTile("lower right", server, 1, 1, 0, 4 * 9 * 10);
        inTile("upper left", server, 1, 0, 1, 4 * 7 * 6);
        inTile("upper right", server, 1, 1, 1, 4 * 9 * 6);
        inTile("a tile within the area", server, 3, 4, 3, 4 * 8 * 8);
        inTile("beside the area", server, 2, 3, 1, 0);
        server = Recipes.area(28, 32, 4, 8);
        inTile("an area that ends at the border", server, 1, 0, 0, 4 * 32);
        inTile("an area that only touches the tile", server, 1, 1, 0, 0);
    }

    private static void cornersCutAslant() {
        // The diamond's upper right side runs from (20, 8) to (8, 20); beyond (16, 12) it is 4 wide and 4 high.
        TileServer server = Recipes.area(8, 8, 12, 12);
        inTile("the middle of a diamond", server, 3, 1, 1, 4 * 64 - 2 * 16);
        inTile("a corner of a diamond", server, 3, 2, 1, 2 * 16);
        inTile("the upper corner of a diamond", server, 3, 1, 2, 2 * 16);
        inTile("behind the corner of a diamond", server, 3, 2, 2, 0);
        // Only the aslant side of this one comes near to the corner of the tile.
        inTile("a side that touches a corner", Recipes.area(24, 24, 8, 16), 3, 1, 1, 0);
        inTile("a side through a corner", Recipes.area(12, 12, 8, 8), 3, 2, 2, 0);
        inTile("a side just beyond a corner", Recipes.area(12, 12, 9, 9), 3, 2, 2, 2);
    }

    private static void everyAreaByBothWays() {
        for (int reach = 1; reach <= 20; reach++) {
            for (int cut = reach; cut <= 2 * reach; cut++) {
                TileServer server = Recipes.area(29, 3 * reach + 1, reach, cut);
                int byParts = 0;
                for (int i = 0; i < 64; i++) {
                    int part = server.areaIn(1, 3, i / 8, i % 8);
                    CHECK.same("reach " + reach + ", cut " + cut, part, server.areaByQuarters(1, 3, i / 8, i % 8));
                    byParts += part;
                }
                CHECK.same("all parts of " + reach + ", " + cut, byParts, server.areaByQuarters(1, 0, 0, 0));
            }
        }
    }

    private static void promises28And29Refuse() {
        for (int wrong : NO_NUMBERS) {
            CHECK.refused("areaIn of " + wrong, BordersTest::lineAndArea, NO_SHAPE, s -> s.areaIn(wrong, -1, 0, 0));
            CHECK.refused("areaByQuarters of " + wrong, BordersTest::lineAndArea, NO_SHAPE, s -> s.areaByQuarters(wrong, -1, 0, 0));
        }
        CHECK.refused("areaIn of a line", BordersTest::lineAndArea, OTHER_KIND, s -> s.areaIn(1, 4, 0, 0));
        CHECK.refused("areaByQuarters of a line", BordersTest::lineAndArea, OTHER_KIND, s -> s.areaByQuarters(1, 4, 0, 0));
        for (int wrong : NO_TILES) {
            CHECK.refused("areaIn level " + wrong, BordersTest::lineAndArea, NO_INDEX, s -> s.areaIn(2, wrong, 0, 0));
            CHECK.refused("areaIn column " + wrong, BordersTest::lineAndArea, NO_INDEX, s -> s.areaIn(2, 3, wrong, 0));
            CHECK.refused("areaIn row " + wrong, BordersTest::lineAndArea, NO_INDEX, s -> s.areaIn(2, 3, 0, wrong));
            CHECK.refused("quarters level " + wrong, BordersTest::lineAndArea, NO_INDEX, s -> s.areaByQuarters(2, wrong, 0, 0));
            CHECK.refused("quarters column " + wrong, BordersTest::lineAndArea, NO_INDEX, s -> s.areaByQuarters(2, 3, wrong, 0));
            CHECK.refused("quarters row " + wrong, BordersTest::lineAndArea, NO_INDEX, s -> s.areaByQuarters(2, 3, 0, wrong));
        }
        CHECK.refused("areaIn level 4", BordersTest::lineAndArea, NO_INDEX, s -> s.areaIn(2, 4, 0, 0));
        CHECK.refused("quarters level 4", BordersTest::lineAndArea, NO_INDEX, s -> s.areaByQuarters(2, 4, 0, 0));
        CHECK.refused("areaIn behind level 0", BordersTest::lineAndArea, NO_INDEX, s -> s.areaIn(2, 0, 1, 0));
        CHECK.refused("quarters behind level 2", BordersTest::lineAndArea, NO_INDEX, s -> s.areaByQuarters(2, 2, 0, 4));
    }

    private static void linesAcrossABorder() {
        TileServer server = Recipes.line(10, 10, 50, 10);
        CHECK.same("across, right", server.crossesRight(1, 1, 0, 0), 1);
        CHECK.same("across, left", server.crossesLeft(1, 1, 1, 0), 1);
        CHECK.same("not the border of the map, left", server.crossesLeft(1, 1, 0, 0), 0);
        CHECK.same("not the border of the map, right", server.crossesRight(1, 1, 1, 0), 0);
        CHECK.same("not in the tile above, right", server.crossesRight(1, 1, 0, 1), 0);
        CHECK.same("not in the tile above, left", server.crossesLeft(1, 1, 1, 1), 0);
        CHECK.same("within a tile of level 0", server.crossesRight(1, 0, 0, 0), 0);
        // At the levels 2 and 3, 10 is the border of two cells.
        CHECK.same("level 3, right", server.crossesRight(1, 3, 4, 1), 2);
        CHECK.same("level 3, left", server.crossesLeft(1, 3, 5, 1), 2);
        CHECK.same("two cells, right", server.crossesRight(1, 2, 1, 0), 2);
        CHECK.same("two cells, left", server.crossesLeft(1, 2, 2, 0), 2);
        server = Recipes.line(0, 1, 64, 1, 64, 30, 0, 30, 0, 61, 64, 61);
        CHECK.same("three times, right", server.crossesRight(1, 0, 0, 0), 5);
        CHECK.same("three times, in the lower tile", server.crossesRight(1, 1, 0, 0), 2);
        CHECK.same("three times, in the upper tile", server.crossesLeft(1, 1, 1, 1), 1);
    }

    private static void linesAlongABorder() {
        TileServer server = Recipes.line(32, 4, 32, 9);
        CHECK.same("along, right", server.crossesRight(1, 1, 0, 0), 3);
        CHECK.same("along, left", server.crossesLeft(1, 1, 1, 0), 3);
        CHECK.same("along, at the other side of the left tile", server.crossesLeft(1, 1, 0, 0), 0);
        server = Recipes.line(64, 0, 64, 64);
        CHECK.same("along the map, right", server.crossesRight(1, 3, 7, 3), 8);
        CHECK.same("along the map, left", server.crossesLeft(1, 3, 7, 3), 0);
        server = Recipes.line(0, 64, 0, 0);
        CHECK.same("along the map's first border", server.crossesLeft(1, 0, 0, 0), 8);
        CHECK.same("along the map's first border, at level 2", server.crossesLeft(1, 2, 0, 3), 8);
        CHECK.same("the other border", server.crossesRight(1, 2, 0, 3), 0);
    }

    private static void linesThatTouchABorder() {
        TileServer server = Recipes.line(32, 30, 10, 3);
        CHECK.same("an end on the border, right", server.crossesRight(1, 1, 0, 0), 1);
        CHECK.same("an end on the border, left", server.crossesLeft(1, 1, 1, 0), 1);
        server.movePoint(1, 0, 32, 32);
        CHECK.same("an end on the corner, right", server.crossesRight(1, 1, 0, 0), 1);
        CHECK.same("an end on the corner, right above", server.crossesRight(1, 1, 0, 1), 1);
        CHECK.same("an end on the corner, left above", server.crossesLeft(1, 1, 1, 1), 1);
        server.movePoint(1, 0, 31, 31);
        CHECK.same("an end before the border, right", server.crossesRight(1, 1, 0, 0), 0);
        CHECK.same("an end before the border, left", server.crossesLeft(1, 1, 1, 0), 0);
        server = Recipes.line(16, 16, 16, 16);
        CHECK.same("one place, right", server.crossesRight(1, 2, 0, 0), 1);
        CHECK.same("one place, left", server.crossesLeft(1, 2, 1, 1), 1);
        CHECK.same("one place between two cells", Recipes.line(32, 16, 32, 16).crossesRight(1, 1, 0, 0), 2);
    }

    private static void simplifiedLinesAtABorder() {
        // The point in the middle reaches 3 over the border, which is crossed at 14 and 26 if it is kept.
        TileServer server = Recipes.line(30, 10, 35, 20, 30, 30);
        server.setTolerance(1, 5);
        CHECK.same("not kept, right", server.crossesRight(1, 1, 0, 0), 0);
        CHECK.same("not kept, left", server.crossesLeft(1, 1, 1, 0), 0);
        server.setTolerance(1, 4);
        CHECK.same("kept, right", server.crossesRight(1, 1, 0, 0), 2);
        CHECK.same("kept, left", server.crossesLeft(1, 1, 1, 0), 2);
    }

    private static void bothSidesOfABorderAgree() {
        TileServer server = Recipes.line(3, 3, 60, 47, 16, 60, 16, 20, 45, 1, 32, 40, 48, 48, 1, 64);
        for (int level = 1; level < 4; level++) {
            int tiles = 1 << level;
            for (int i = 0; i < (tiles - 1) * tiles; i++) {
                int column = i / tiles;
                CHECK.same("the border " + i + " at " + level, server.crossesRight(1, level, column, i % tiles),
                    server.crossesLeft(1, level, column + 1, i % tiles));
            }
        }
    }

    private static void promises30And31Refuse() {
        for (int wrong : NO_NUMBERS) {
            CHECK.refused("crossesRight of " + wrong, BordersTest::lineAndArea, NO_SHAPE, s -> s.crossesRight(wrong, -1, 0, 0));
            CHECK.refused("crossesLeft of " + wrong, BordersTest::lineAndArea, NO_SHAPE, s -> s.crossesLeft(wrong, -1, 0, 0));
        }
        CHECK.refused("crossesRight of an area", BordersTest::lineAndArea, OTHER_KIND, s -> s.crossesRight(2, 4, 0, 0));
        CHECK.refused("crossesLeft of an area", BordersTest::lineAndArea, OTHER_KIND, s -> s.crossesLeft(2, 4, 0, 0));
        for (int wrong : NO_TILES) {
            CHECK.refused("right level " + wrong, BordersTest::lineAndArea, NO_INDEX, s -> s.crossesRight(1, wrong, 0, 0));
            CHECK.refused("right column " + wrong, BordersTest::lineAndArea, NO_INDEX, s -> s.crossesRight(1, 3, wrong, 0));
            CHECK.refused("right row " + wrong, BordersTest::lineAndArea, NO_INDEX, s -> s.crossesRight(1, 3, 0, wrong));
            CHECK.refused("left level " + wrong, BordersTest::lineAndArea, NO_INDEX, s -> s.crossesLeft(1, wrong, 0, 0));
            CHECK.refused("left column " + wrong, BordersTest::lineAndArea, NO_INDEX, s -> s.crossesLeft(1, 3, wrong, 0));
            CHECK.refused("left row " + wrong, BordersTest::lineAndArea, NO_INDEX, s -> s.crossesLeft(1, 3, 0, wrong));
        }
        CHECK.refused("right level 4", BordersTest::lineAndArea, NO_INDEX, s -> s.crossesRight(1, 4, 0, 0));
        CHECK.refused("left level 4", BordersTest::lineAndArea, NO_INDEX, s -> s.crossesLeft(1, 4, 0, 0));
        CHECK.refused("right behind level 1", BordersTest::lineAndArea, NO_INDEX, s -> s.crossesRight(1, 1, 2, 0));
        CHECK.refused("left behind level 1", BordersTest::lineAndArea, NO_INDEX, s -> s.crossesLeft(1, 1, 2, 0));
    }

    private static void promise32SegmentsIn() {
        TileServer server = Recipes.line(10, 10, 50, 10, 50, 50);
        CHECK.same("both segments", server.segmentsIn(0, 0, 0), 2);
        CHECK.same("the first one", server.segmentsIn(1, 0, 0), 1);
        CHECK.same("where they meet", server.segmentsIn(1, 1, 0), 2);
        CHECK.same("the other one", server.segmentsIn(1, 1, 1), 1);
        CHECK.same("none", server.segmentsIn(1, 0, 1), 0);
        CHECK.same("within a segment at level 3", server.segmentsIn(3, 3, 1), 1);
        server.addArea(10, 50, 9, 9);
        CHECK.same("an area has none", server.segmentsIn(1, 0, 1), 0);
        server.addLine(0, 32, 20, 32);
        CHECK.same("on the border, below", server.segmentsIn(1, 0, 0), 2);
        CHECK.same("on the border, above", server.segmentsIn(1, 0, 1), 1);
        CHECK.same("beside, above", server.segmentsIn(1, 1, 1), 1);
        server.addLine(16, 48, 32, 64);
        CHECK.same("the corner of a tile, touched in passing", server.segmentsIn(2, 0, 3), 1);
        CHECK.same("the end of a segment in a corner", server.segmentsIn(2, 2, 3), 1);
        server = Recipes.line(0, 0, 20, 3, 40, 0);
        CHECK.same("simplified to one", server.segmentsIn(0, 0, 0), 1);
        CHECK.same("two of them", server.segmentsIn(1, 0, 0), 2);
        server = Recipes.line(5, 5, 5, 5, 20, 5);
        CHECK.same("points at the same place", server.segmentsIn(3, 0, 0), 1);
    }

    private static void promise32Refuses() {
        for (int wrong : NO_TILES) {
            CHECK.refused("segmentsIn level " + wrong, BordersTest::lineAndArea, NO_INDEX, s -> s.segmentsIn(wrong, 0, 0));
            CHECK.refused("segmentsIn column " + wrong, BordersTest::lineAndArea, NO_INDEX, s -> s.segmentsIn(3, wrong, 0));
            CHECK.refused("segmentsIn row " + wrong, BordersTest::lineAndArea, NO_INDEX, s -> s.segmentsIn(3, 0, wrong));
        }
        CHECK.refused("segmentsIn level 4", BordersTest::lineAndArea, NO_INDEX, s -> s.segmentsIn(4, 0, 0));
        CHECK.refused("segmentsIn behind level 0", BordersTest::lineAndArea, NO_INDEX, s -> s.segmentsIn(0, 0, 1));
    }
}
