import java.util.NoSuchElementException;

/** Promises 11, 21 to 27, 37 and 39: cells, tiles in the cache, and what makes them leave it. */
public final class CacheTest {
    private static final Class<?> NO_INDEX = IndexOutOfBoundsException.class;
    private static final Class<?> NO_TILE = NoSuchElementException.class;
    private static final int[] NO_CELLS = {-1, 8, 64, Integer.MIN_VALUE, Integer.MAX_VALUE};
    private static final Check CHECK = new Check();

    public static void main(String[] args) {
        promise11Pass();
        promise11PassRefuses();
        cellsOfALine();
        cellsOfALineTouchTheirBorders();
        cellsOfALineAreThoseOfItsLevel();
        cellsOfAnArea();
        theGreatestNumberShows();
        promise21HitsAndMisses();
        promise21TheLongestUnaskedLeaves();
        promises21And22Refuse();
        promise22ChangesNothing();
        promises23And24TilesAndAges();
        promises23And24Refuse();
        promise27HitShare();
        promise37Drawn();
        promise39IsFresh();
        shapesMadeAndTakenAwayDropTiles();
        changedLinesDropTiles();
        aChangeWithinAPartOfTheMap();
        pointsThatAreNotKeptDropTiles();
        movedAreasDropTiles();
        tilesMeetRectanglesAtBorders();
        labelsDropNothing();
        CHECK.end();
    }

    /** A server whose cache holds the four tiles of level 1, those of a column behind one another. */
    private static TileServer fourTiles() {
        TileServer server = new TileServer();
        for (int i = 0; i < 4; i++) {
            server.cellAt(1, i / 2, i % 2, 0, 0);
        }
        return server;
    }

    /** Tells which of the four tiles of level 1 are in the cache, by 'x', in the order of fourTiles(). */
    private static String four(TileServer server) {
        StringBuilder text = new StringBuilder();
        for (int i = 0; i < 4; i++) {
            text.append(server.isCached(1, i / 2, i % 2) ? 'x' : '.');
        }
        return text.toString();
    }

    private static void promise11Pass() {
        TileServer server = new TileServer();
        server.cellAt(0, 0, 0, 0, 0);
        CHECK.same("tiles that leave after 19 ticks", server.pass(19), 0);
        CHECK.same("age after 19 ticks", server.ageOf(0, 0, 0), 19);
        server.cellAt(1, 0, 0, 0, 0);
        server.cellAt(0, 0, 0, 0, 0);
        CHECK.same("a hit does not draw anew", server.pass(1), 1);
        CHECK.same("tile after 20 ticks", server.isCached(0, 0, 0), false);
        CHECK.same("tile after 1 tick", server.isCached(1, 0, 0), true);
        CHECK.same("tiles that leave twice", server.pass(18), 0);
        server.cellAt(1, 1, 1, 0, 0);
        server.cellAt(2, 1, 1, 0, 0);
        CHECK.same("at 20 ticks", server.pass(1), 1);
        CHECK.same("at 99 ticks", server.pass(99), 2);
        CHECK.same("cached after 99 ticks", server.cached(), 0);
        CHECK.same("clock", server.clock(), 138);
        server.cellAt(0, 0, 0, 0, 0);
        CHECK.same("drawn anew", server.ageOf(0, 0, 0), 0);
    }

    private static void promise11PassRefuses() {
        for (int wrong : new int[] {0, -1, 100, Integer.MIN_VALUE, Integer.MAX_VALUE}) {
            CHECK.refused("pass of " + wrong, CacheTest::fourTiles, IllegalArgumentException.class, s -> s.pass(wrong));
        }
    }

    /** Checks a tile's cells: rows from the greatest to the least second coordinate, '.' for none. */
    private static void cells(String what, TileServer server, int level, int column, int row, String... due) {
        StringBuilder asked = new StringBuilder();
        StringBuilder drawn = new StringBuilder();
        for (int y = 7; y >= 0; y--) {
            for (int x = 0; x < 8; x++) {
                asked.append(sign(server.cellAt(level, column, row, x, y)));
                drawn.append(sign(server.cellByDrawing(level, column, row, x, y)));
            }
        }
        CHECK.same(what + ", cellAt", asked.toString(), String.join("", due));
        CHECK.same(what + ", cellByDrawing", drawn.toString(), String.join("", due));
    }

    private static char sign(int number) {
        return number == 0 ? '.' : Character.forDigit(number, 36);
    }

    private static void cellsOfALine() {
        TileServer server = new TileServer();
        server.addLine(4, 4, 60, 36);
        cells("a line at level 0", server, 0, 0, 0,
            "........",
            "........",
            "........",
            "......11",
            "....111.",
            "...11...",
            ".111....",
            "11......");
        // It is 20 high at 32, and 24, 28 and 32 high at 39, 46 and 53.
        cells("a line at level 1", server, 1, 1, 0,
            "...111..",
            ".111....",
            "11......",
            "1.......",
            "........",
            "........",
            "........",
            "........");
        cells("a line at level 1, above", server, 1, 1, 1,
            "........",
            "........",
            "........",
            "........",
            "........",
            "........",
            "......11",
            ".....111");
    }

    private static void cellsOfALineTouchTheirBorders() {
        TileServer server = new TileServer();
        server.addLine(32, 16, 32, 24);
        cells("on a border of cells, with ends on borders", server, 0, 0, 0,
            "........",
            "........",
            "........",
            "........",
            "...11...",
            "...11...",
            "...11...",
            "........");
        server.addLine(8, 48, 16, 56);
        CHECK.same("a corner is touched", server.cellByDrawing(0, 0, 0, 0, 5), 2);
        CHECK.same("a corner is touched, too", server.cellByDrawing(0, 0, 0, 2, 7), 2);
        CHECK.same("a corner beside", server.cellByDrawing(0, 0, 0, 0, 7), 0);
        CHECK.same("a corner in the middle", server.cellByDrawing(0, 0, 0, 2, 6), 2);
        server.addLine(64, 64, 64, 64);
        CHECK.same("a line at one place", server.cellByDrawing(3, 7, 7, 7, 7), 3);
        CHECK.same("beside a line at one place", server.cellByDrawing(3, 7, 7, 6, 7), 0);
        server.addLine(40, 40, 40, 40);
        CHECK.same("a place in a corner of four cells", server.cellByDrawing(3, 4, 4, 7, 7), 4);
        CHECK.same("a place in a corner of four cells", server.cellByDrawing(3, 5, 5, 0, 0), 4);
        CHECK.same("a place in a corner of four cells", server.cellByDrawing(3, 4, 5, 7, 0), 4);
        linesThatPassCorners();
    }

    private static void linesThatPassCorners() {
        TileServer server = new TileServer();
        server.addLine(0, 0, 64, 63);
        CHECK.same("just below a corner", server.cellByDrawing(3, 0, 0, 0, 1), 0);
        CHECK.same("the cell under that corner", server.cellByDrawing(3, 0, 0, 1, 0), 1);
        server.movePoint(1, 1, 63, 64);
        CHECK.same("just above a corner", server.cellByDrawing(3, 0, 0, 1, 0), 0);
        CHECK.same("the cell over that corner", server.cellByDrawing(3, 0, 0, 0, 1), 1);
    }

    private static void cellsOfALineAreThoseOfItsLevel() {
        TileServer server = new TileServer();
        server.addLine(0, 7, 10, 11);
        server.extend(1, 20, 7);
        CHECK.same("a simplified line does not show there", server.cellByDrawing(0, 0, 0, 1, 1), 0);
        CHECK.same("the same place at level 1", server.cellByDrawing(1, 0, 0, 2, 2), 1);
    }

    private static void cellsOfAnArea() {
        TileServer server = new TileServer();
        server.addArea(32, 32, 16, 16);
        cells("a diamond at level 0", server, 0, 0, 0,
            "........",
            "........",
            "...11...",
            "..1111..",
            "..1111..",
            "...11...",
            "........",
            "........");
        TileServer least = new TileServer();
        least.addArea(3, 5, 1, 1);
        cells("the least area, level 3", least, 3, 0, 0,
            "........",
            "........",
            "..11....",
            "..11....",
            "........",
            "........",
            "........",
            "........");
        server.moveArea(1, -31, -30);
        server.addArea(8, 8, 7, 14);
        cells("areas at a corner of the map, level 3", server, 3, 0, 0,
            "12222222",
            "12222222",
            "12222222",
            "12222222",
            "12222222",
            "12222222",
            "12222222",
            "11111111");
        CHECK.same("an area's border is not enough", server.cellByDrawing(3, 0, 0, 0, 7), 1);
        CHECK.same("a square's last cell", server.cellByDrawing(3, 1, 1, 6, 6), 2);
        CHECK.same("behind a square", server.cellByDrawing(3, 1, 1, 7, 6), 0);
        CHECK.same("above a square", server.cellByDrawing(3, 1, 1, 6, 7), 0);
    }

    private static void theGreatestNumberShows() {
        TileServer server = new TileServer();
        server.addArea(32, 32, 16, 32);
        server.addLine(32, 0, 32, 64);
        server.addArea(40, 40, 4, 8);
        CHECK.same("an area over a line", server.cellByDrawing(0, 0, 0, 4, 4), 3);
        CHECK.same("a line over an area", server.cellByDrawing(0, 0, 0, 3, 3), 2);
        server.remove(2);
        CHECK.same("the area under a line", server.cellByDrawing(0, 0, 0, 3, 3), 1);
        server.movePoint(server.addLine(0, 0, 1, 1), 1, 64, 64);
        server.moveArea(1, 1, 1);
        CHECK.same("a change does not bring to the front", server.cellByDrawing(0, 0, 0, 3, 3), 4);
    }

    private static void promise21HitsAndMisses() {
        TileServer server = new TileServer();
        server.addLine(0, 0, 64, 64);
        CHECK.same("a missed cell", server.cellAt(1, 1, 1, 3, 3), 1);
        CHECK.same("misses after one", server.misses(), 1);
        CHECK.same("a cell of the same tile", server.cellAt(1, 1, 1, 7, 0), 0);
        CHECK.same("misses after a hit", server.misses(), 1);
        server.cellAt(1, 0, 1, 0, 0);
        server.cellAt(1, 1, 0, 0, 0);
        server.cellAt(2, 1, 1, 0, 0);
        CHECK.same("misses of four tiles", server.misses(), 4);
        CHECK.same("cached", server.cached(), 4);
        server.remove(1);
        CHECK.same("after a change", server.cellAt(1, 1, 1, 3, 3), 0);
        CHECK.same("misses after a change", server.misses(), 5);
    }

    private static void promise21TheLongestUnaskedLeaves() {
        TileServer server = fourTiles();
        server.cellAt(0, 0, 0, 0, 0);
        CHECK.same("five tiles", server.cached(), 5);
        server.cellAt(1, 0, 0, 5, 5);
        server.isCached(1, 0, 1);
        server.cellByDrawing(1, 0, 1, 0, 0);
        server.cellAt(3, 7, 7, 0, 0);
        CHECK.same("still five tiles", server.cached(), 5);
        CHECK.same("the longest unasked one left", four(server), "x.xx");
        server.cellAt(3, 6, 6, 0, 0);
        CHECK.same("the next one left", four(server), "x..x");
        server.cellAt(3, 5, 5, 0, 0);
        CHECK.same("the third one left", four(server), "x...");
        CHECK.same("the tile of level 0", server.isCached(0, 0, 0), true);
        server.cellAt(3, 4, 4, 0, 0);
        CHECK.same("it left, too", server.isCached(0, 0, 0), false);
        server.cellAt(3, 3, 3, 0, 0);
        CHECK.same("the one that was hit left last", four(server), "....");
        CHECK.same("misses", server.misses(), 10);
        roomIsUsedFirst();
    }

    private static void roomIsUsedFirst() {
        TileServer server = fourTiles();
        server.cellAt(3, 7, 7, 0, 0);
        server.addLine(63, 63, 64, 64);
        CHECK.same("tiles after a line", server.cached(), 3);
        server.cellAt(3, 0, 0, 0, 0);
        server.cellAt(3, 0, 1, 0, 0);
        CHECK.same("none leaves while there is room", four(server), "xxx.");
    }

    private static void promises21And22Refuse() {
        for (int wrong : NO_CELLS) {
            CHECK.refused("cellAt level " + wrong, CacheTest::fourTiles, NO_INDEX, s -> s.cellAt(wrong, 0, 0, 0, 0));
            CHECK.refused("cellAt column " + wrong, CacheTest::fourTiles, NO_INDEX, s -> s.cellAt(3, wrong, 0, 0, 0));
            CHECK.refused("cellAt row " + wrong, CacheTest::fourTiles, NO_INDEX, s -> s.cellAt(3, 0, wrong, 0, 0));
            CHECK.refused("cellAt x " + wrong, CacheTest::fourTiles, NO_INDEX, s -> s.cellAt(3, 0, 0, wrong, 0));
            CHECK.refused("cellAt y " + wrong, CacheTest::fourTiles, NO_INDEX, s -> s.cellAt(3, 0, 0, 0, wrong));
            CHECK.refused("drawing level " + wrong, CacheTest::fourTiles, NO_INDEX, s -> s.cellByDrawing(wrong, 0, 0, 0, 0));
            CHECK.refused("drawing column " + wrong, CacheTest::fourTiles, NO_INDEX, s -> s.cellByDrawing(3, wrong, 0, 0, 0));
            CHECK.refused("drawing row " + wrong, CacheTest::fourTiles, NO_INDEX, s -> s.cellByDrawing(3, 0, wrong, 0, 0));
            CHECK.refused("drawing x " + wrong, CacheTest::fourTiles, NO_INDEX, s -> s.cellByDrawing(3, 0, 0, wrong, 0));
            CHECK.refused("drawing y " + wrong, CacheTest::fourTiles, NO_INDEX, s -> s.cellByDrawing(3, 0, 0, 0, wrong));
        }
        CHECK.refused("cellAt level 4", CacheTest::fourTiles, NO_INDEX, s -> s.cellAt(4, 0, 0, 0, 0));
        for (int level = 0; level < 4; level++) {
            int asked = level;
            int tiles = 1 << level;
            CHECK.refused("cellAt behind the columns", CacheTest::fourTiles, NO_INDEX, s -> s.cellAt(asked, tiles, 0, 0, 0));
            CHECK.refused("cellAt behind the rows", CacheTest::fourTiles, NO_INDEX, s -> s.cellAt(asked, 0, tiles, 0, 0));
            CHECK.taken("cellAt the last tile", CacheTest::fourTiles, s -> s.cellAt(asked, tiles - 1, tiles - 1, 7, 7));
        }
    }

    private static void promise22ChangesNothing() {
        TileServer server = fourTiles();
        server.addArea(32, 32, 20, 40);
        String before = Check.stateOf(server);
        CHECK.same("drawn anew", server.cellByDrawing(1, 0, 0, 7, 7), 1);
        CHECK.same("what stands after cellByDrawing", Check.stateOf(server), before);
    }

    private static void promises23And24TilesAndAges() {
        TileServer server = new TileServer();
        server.cellAt(2, 1, 3, 0, 0);
        CHECK.same("the tile", server.isCached(2, 1, 3), true);
        CHECK.same("column and row changed", server.isCached(2, 3, 1), false);
        CHECK.same("the same column and row at another level", server.isCached(3, 1, 3), false);
        CHECK.same("its age", server.ageOf(2, 1, 3), 0);
        server.pass(7);
        server.cellAt(3, 1, 3, 0, 0);
        server.cellAt(2, 1, 3, 1, 1);
        CHECK.same("its age after a hit", server.ageOf(2, 1, 3), 7);
        CHECK.same("the other one's age", server.ageOf(3, 1, 3), 0);
        server.pass(12);
        CHECK.same("the greatest age", server.ageOf(2, 1, 3), 19);
    }

    private static void promises23And24Refuse() {
        for (int wrong : NO_CELLS) {
            CHECK.refused("isCached level " + wrong, CacheTest::fourTiles, NO_INDEX, s -> s.isCached(wrong, 0, 0));
            CHECK.refused("isCached column " + wrong, CacheTest::fourTiles, NO_INDEX, s -> s.isCached(3, wrong, 0));
            CHECK.refused("isCached row " + wrong, CacheTest::fourTiles, NO_INDEX, s -> s.isCached(3, 0, wrong));
            CHECK.refused("ageOf level " + wrong, CacheTest::fourTiles, NO_INDEX, s -> s.ageOf(wrong, 0, 0));
            CHECK.refused("ageOf column " + wrong, CacheTest::fourTiles, NO_INDEX, s -> s.ageOf(3, wrong, 0));
            CHECK.refused("ageOf row " + wrong, CacheTest::fourTiles, NO_INDEX, s -> s.ageOf(3, 0, wrong));
        }
        CHECK.refused("isCached level 4", CacheTest::fourTiles, NO_INDEX, s -> s.isCached(4, 0, 0));
        CHECK.refused("ageOf level 4", CacheTest::fourTiles, NO_INDEX, s -> s.ageOf(4, 0, 0));
        CHECK.refused("isCached behind level 1", CacheTest::fourTiles, NO_INDEX, s -> s.isCached(1, 2, 0));
        CHECK.refused("ageOf behind level 1", CacheTest::fourTiles, NO_INDEX, s -> s.ageOf(1, 0, 2));
        CHECK.refused("ageOf what is not cached", CacheTest::fourTiles, NO_TILE, s -> s.ageOf(0, 0, 0));
        CHECK.refused("ageOf what is not cached", CacheTest::fourTiles, NO_TILE, s -> s.ageOf(3, 7, 7));
    }

    private static void promise27HitShare() {
        TileServer server = new TileServer();
        server.cellAt(0, 0, 0, 0, 0);
        CHECK.same("no hits", server.hitShare(), 0.0f);
        server.cellAt(0, 0, 0, 0, 0);
        CHECK.same("one hit of two", server.hitShare(), 0.5f);
        server.cellAt(0, 0, 0, 7, 7);
        CHECK.same("two hits of three", server.hitShare(), 2f / 3f);
        server.cellByDrawing(0, 0, 0, 0, 0);
        server.pass(20);
        CHECK.same("after what is no asking", server.hitShare(), 2f / 3f);
        CHECK.refused("hitShare of nothing", CacheTest::neverAsked, ArithmeticException.class, s -> s.hitShare());
    }

    private static TileServer neverAsked() {
        TileServer server = new TileServer();
        server.addLine(0, 0, 9, 9);
        server.cellByDrawing(0, 0, 0, 0, 0);
        return server;
    }

    private static void promise37Drawn() {
        TileServer server = new TileServer();
        server.addArea(32, 32, 16, 16);
        server.cellAt(0, 0, 0, 0, 0);
        CHECK.same("cells of a diamond", server.drawn(), 12L);
        server.cellAt(0, 0, 0, 3, 3);
        CHECK.same("after a hit", server.drawn(), 12L);
        server.addLine(0, 0, 0, 64);
        CHECK.same("after a change", server.drawn(), 12L);
        server.cellAt(0, 0, 0, 0, 0);
        CHECK.same("drawn anew", server.drawn(), 32L);
        server.cellAt(3, 7, 7, 0, 0);
        CHECK.same("an empty tile", server.drawn(), 32L);
        server.remove(1);
        server.remove(2);
        CHECK.same("after all was taken away", server.drawn(), 32L);
        server.addArea(32, 32, 20, 40);
        server.cellAt(3, 4, 4, 0, 0);
        CHECK.same("a tile that is full", server.drawn(), 96L);
    }

    private static void promise39IsFresh() {
        TileServer server = new TileServer();
        server.addLine(0, 0, 64, 64);
        server.extend(1, 64, 0);
        server.addArea(20, 40, 9, 12);
        for (int i = 0; i < 4; i++) {
            server.cellAt(i, 0, 0, i, i);
        }
        CHECK.same("fresh", server.isFresh(), true);
        server.movePoint(1, 1, 3, 60);
        CHECK.same("fresh after movePoint", server.isFresh(), true);
        server.cellAt(0, 0, 0, 0, 0);
        server.setTolerance(0, 9);
        CHECK.same("fresh after setTolerance", server.isFresh(), true);
        server.cellAt(1, 0, 1, 0, 0);
        server.moveArea(2, 9, -9);
        CHECK.same("fresh after moveArea", server.isFresh(), true);
        server.cellAt(0, 0, 0, 0, 0);
        server.remove(1);
        CHECK.same("fresh after remove", server.isFresh(), true);
    }

    private static void shapesMadeAndTakenAwayDropTiles() {
        TileServer server = fourTiles();
        server.addLine(1, 1, 31, 31);
        CHECK.same("after addLine", four(server), ".xxx");
        server.addArea(50, 50, 5, 5);
        CHECK.same("after addArea", four(server), ".xx.");
        server.cellAt(1, 0, 0, 0, 0);
        server.cellAt(1, 1, 1, 0, 0);
        server.remove(1);
        CHECK.same("after remove of a line", four(server), ".xxx");
        server.remove(2);
        CHECK.same("after remove of an area", four(server), ".xx.");
    }

    private static void changedLinesDropTiles() {
        TileServer server = new TileServer();
        server.addLine(1, 1, 2, 2);
        for (int i = 0; i < 4; i++) {
            server.cellAt(1, i / 2, i % 2, 0, 0);
        }
        CHECK.same("moved into another tile", server.movePoint(1, 1, 2, 40), 2);
        CHECK.same("before and afterwards", four(server), "..xx");
        server.cellAt(1, 0, 0, 0, 0);
        server.cellAt(1, 0, 1, 0, 0);
        CHECK.same("moved to where it was", server.movePoint(1, 1, 2, 40), 2);
        server.cellAt(1, 0, 0, 0, 0);
        server.cellAt(1, 0, 1, 0, 0);
        server.extend(1, 40, 2);
        CHECK.same("the rectangle, not the line", four(server), "....");
        for (int i = 0; i < 4; i++) {
            server.cellAt(1, i / 2, i % 2, 0, 0);
        }
        CHECK.same("dropped", server.dropPoint(1, 1), 2);
        CHECK.same("as it was before dropPoint", four(server), "....");
    }

    private static void aChangeWithinAPartOfTheMap() {
        TileServer server = new TileServer();
        server.addLine(1, 1, 2, 2);
        server.extend(1, 40, 2);
        for (int i = 0; i < 4; i++) {
            server.cellAt(1, i / 2, i % 2, 0, 0);
        }
        server.dropPoint(1, 2);
        CHECK.same("what the line met before", four(server), ".x.x");
    }

    private static void pointsThatAreNotKeptDropTiles() {
        TileServer server = new TileServer();
        // The second point lies beyond the first one on the straight line to the third one, so it is never kept.
        server.addLine(34, 1, 1, 1);
        server.extend(1, 40, 1);
        for (int i = 0; i < 4; i++) {
            server.cellAt(1, i / 2, i % 2, 0, 0);
        }
        CHECK.same("the left tile shows nothing", server.cellAt(1, 0, 0, 0, 0), 0);
        CHECK.same("both tiles leave", server.movePoint(1, 2, 41, 1), 2);
        CHECK.same("the others stay", four(server), ".x.x");
    }

    private static void movedAreasDropTiles() {
        TileServer server = new TileServer();
        server.addArea(10, 10, 5, 8);
        for (int i = 0; i < 4; i++) {
            server.cellAt(1, i / 2, i % 2, 0, 0);
        }
        // One rectangle for each of both: the tiles between them stay.
        CHECK.same("moved across", server.moveArea(1, 40, 40), 2);
        CHECK.same("before and afterwards", four(server), ".xx.");
        server.cellAt(1, 1, 1, 0, 0);
        CHECK.same("moved by nothing", server.moveArea(1, 0, 0), 1);
        CHECK.same("moved by nothing once more", server.moveArea(1, 0, 0), 0);
        CHECK.same("the others stay", four(server), ".xx.");
    }

    private static void tilesMeetRectanglesAtBorders() {
        TileServer server = fourTiles();
        server.addLine(1, 31, 31, 31);
        CHECK.same("1 before the border", four(server), ".xxx");
        server.addLine(1, 32, 31, 32);
        CHECK.same("on the border of two tiles", four(server), "..xx");
        server = fourTiles();
        server.addLine(32, 32, 32, 32);
        CHECK.same("in the corner of four tiles", four(server), "....");
        server = fourTiles();
        server.addArea(28, 28, 4, 4);
        CHECK.same("an area that touches the borders", four(server), "....");
        server = fourTiles();
        server.addArea(28, 27, 4, 4);
        CHECK.same("an area that touches a border", four(server), ".x.x");
        server = fourTiles();
        server.addArea(27, 28, 4, 5);
        CHECK.same("an area that touches the other border", four(server), "..xx");
        server = fourTiles();
        server.addArea(36, 37, 4, 8);
        CHECK.same("an area behind a border", four(server), "x.x.");
    }

    private static void labelsDropNothing() {
        TileServer server = new TileServer();
        server.addArea(32, 32, 9, 9);
        for (int i = 0; i < 4; i++) {
            server.cellAt(1, i / 2, i % 2, 0, 0);
        }
        server.setLabel(1, 8, 9);
        server.setLabel(1, 0, 9);
        CHECK.same("after labels", four(server), "xxxx");
        CHECK.same("a label is not part of a cell", server.cellByDrawing(1, 1, 1, 4, 0), 0);
    }
}
