import java.util.NoSuchElementException;

/** Promises 10, 18 to 20 and 38: tolerances, and which points of a line are kept. */
public final class SimplifyTest {
    private static final Class<?> NO_SHAPE = NoSuchElementException.class;
    private static final Class<?> OTHER_KIND = UnsupportedOperationException.class;
    private static final Class<?> NO_INDEX = IndexOutOfBoundsException.class;
    private static final Class<?> ILLEGAL = IllegalArgumentException.class;
    private static final int[] NO_LEVELS = {-1, 4, Integer.MIN_VALUE, Integer.MAX_VALUE};
    private static final int[] NO_NUMBERS = {-1, 0, 3, Integer.MIN_VALUE, Integer.MAX_VALUE};
    private static final Check CHECK = new Check();

    public static void main(String[] args) {
        promise10SetTolerance();
        promise10SetToleranceRefuses();
        promise10TilesOfTheLevelLeave();
        theFirstTolerancesHold();
        fartherThanTheToleranceOnly();
        theFirstOfSeveralFarthest();
        theStraightLineGoesOn();
        endsAtTheSamePlace();
        pointsAtTheSamePlace();
        divisionGoesOnInBothParts();
        changesOfALineChangeWhatIsKept();
        promises18To20Refuse();
        promise38MeanKept();
        CHECK.end();
    }

    /** Checks all that tells which points of the line 1 are kept at a level: 'x' stands for one that is. */
    private static void kept(String what, TileServer server, int level, String due) {
        StringBuilder divided = new StringBuilder();
        StringBuilder marked = new StringBuilder();
        for (int i = 0; i < server.points(1); i++) {
            divided.append(server.isKept(1, level, i) ? 'x' : '.');
            marked.append(server.isKeptByMarks(1, level, i) ? 'x' : '.');
        }
        CHECK.same(what + ", isKept", divided.toString(), due);
        CHECK.same(what + ", isKeptByMarks", marked.toString(), due);
        CHECK.same(what + ", keptPoints", server.keptPoints(1, level), due.replace(".", "").length());
    }

    private static void promise10SetTolerance() {
        TileServer server = new TileServer();
        int[] first = {4, 2, 1, 0};
        for (int level = 0; level < 4; level++) {
            CHECK.same("first tolerance of " + level, server.setTolerance(level, 9), first[level]);
            CHECK.same("tolerance before of " + level, server.setTolerance(level, 0), 9);
            CHECK.same("tolerance 0 before of " + level, server.setTolerance(level, level), 0);
        }
        CHECK.same("tolerance of its own", server.setTolerance(2, 5), 2);
    }

    private static TileServer lineAndArea() {
        TileServer server = Recipes.line(0, 0, 10, 3, 20, 0);
        server.addArea(50, 50, 4, 6);
        server.cellAt(0, 0, 0, 0, 0);
        server.cellAt(1, 0, 0, 0, 0);
        return server;
    }

    private static void promise10SetToleranceRefuses() {
        for (int wrong : NO_LEVELS) {
            CHECK.refused("setTolerance at " + wrong, SimplifyTest::lineAndArea, NO_INDEX, s -> s.setTolerance(wrong, 10));
        }
        for (int wrong : new int[] {-1, 10, Integer.MIN_VALUE, Integer.MAX_VALUE}) {
            CHECK.refused("setTolerance to " + wrong, SimplifyTest::lineAndArea, ILLEGAL, s -> s.setTolerance(0, wrong));
            CHECK.refused("setTolerance to " + wrong, SimplifyTest::lineAndArea, ILLEGAL, s -> s.setTolerance(3, wrong));
        }
    }

    private static void promise10TilesOfTheLevelLeave() {
        TileServer server = lineAndArea();
        server.cellAt(1, 1, 1, 0, 0);
        server.cellAt(2, 3, 3, 0, 0);
        server.setTolerance(1, 2);
        CHECK.same("tile of the level", server.isCached(1, 0, 0), false);
        CHECK.same("far tile of the level", server.isCached(1, 1, 1), false);
        CHECK.same("tile of a lower level", server.isCached(0, 0, 0), true);
        CHECK.same("tile of a higher level", server.isCached(2, 3, 3), true);
        server.setTolerance(0, 1);
        CHECK.same("tiles left", server.cached(), 1);
        CHECK.same("cell by the new tolerance", server.cellAt(0, 0, 0, 2, 0), 1);
        CHECK.same("fresh after setTolerance", server.isFresh(), true);
    }

    private static void theFirstTolerancesHold() {
        // The point in the middle is 3 away from the straight line.
        TileServer server = Recipes.line(0, 0, 10, 3, 20, 0);
        kept("3 away, level 0", server, 0, "x.x");
        kept("3 away, level 1", server, 1, "xxx");
        kept("3 away, level 2", server, 2, "xxx");
        kept("3 away, level 3", server, 3, "xxx");
        // On the straight line, it is not farther than 0.
        kept("0 away, level 3", Recipes.line(0, 0, 5, 5, 20, 20), 3, "x.x");
        kept("two points", Recipes.line(3, 4, 5, 6), 3, "xx");
    }

    private static void fartherThanTheToleranceOnly() {
        TileServer server = Recipes.line(0, 0, 10, 5, 20, 0);
        server.setTolerance(0, 5);
        kept("5 away, tolerance 5", server, 0, "x.x");
        server.setTolerance(0, 4);
        kept("5 away, tolerance 4", server, 0, "xxx");
        // From (0, 0) to (8, 6), the straight line is 10 long; (0, 5) is 4 away and (0, 6) somewhat more.
        server = Recipes.line(0, 0, 0, 5, 8, 6);
        kept("4 away aslant, tolerance 4", server, 0, "x.x");
        server.movePoint(1, 1, 0, 6);
        kept("4.8 away aslant, tolerance 4", server, 0, "xxx");
        server.setTolerance(0, 5);
        kept("4.8 away aslant, tolerance 5", server, 0, "x.x");
    }

    private static void theFirstOfSeveralFarthest() {
        // The points 1 and 2 are both 5 away. With the first one kept, the second one is 2.2 away.
        TileServer server = Recipes.line(0, 0, 5, 5, 15, 5, 20, 0);
        kept("the first of two", server, 0, "xx.x");
        // Now the second one is on the other side, and both are needed.
        kept("two on both sides", Recipes.line(0, 32, 5, 37, 15, 27, 20, 32), 0, "xxxx");
        kept("the greater of two", Recipes.line(0, 0, 4, 5, 15, 6, 20, 0), 0, "x.xx");
    }

    private static void theStraightLineGoesOn() {
        // The point lies far behind the last one, but on the same straight line.
        kept("behind the end", Recipes.line(0, 10, 60, 10, 20, 10), 3, "x.x");
        kept("2 beside, far behind the end", Recipes.line(0, 10, 60, 12, 20, 10), 1, "x.x");
        kept("3 beside, far behind the end", Recipes.line(0, 10, 60, 13, 20, 10), 1, "xxx");
    }

    private static void endsAtTheSamePlace() {
        // The distance to a place counts: (3, 4) is 5 away from it.
        TileServer server = Recipes.line(10, 10, 13, 14, 10, 10);
        kept("5 away from a place, tolerance 4", server, 0, "xxx");
        server.setTolerance(0, 5);
        kept("5 away from a place, tolerance 5", server, 0, "x.x");
        kept("5 away along the first coordinate", Recipes.line(10, 10, 15, 10, 10, 10), 0, "xxx");
        kept("5 away along the second coordinate", Recipes.line(10, 10, 10, 15, 10, 10), 0, "xxx");
        kept("the first of two from a place", Recipes.line(10, 10, 13, 14, 14, 13, 10, 10), 0, "xx.x");
        kept("all at a place", Recipes.line(10, 10, 10, 10, 10, 10, 10, 10), 3, "x..x");
        kept("a ring", Recipes.line(0, 0, 20, 0, 20, 20, 0, 20, 0, 0), 0, "xxxxx");
    }

    private static void pointsAtTheSamePlace() {
        kept("the first of two at a place", Recipes.line(0, 0, 10, 9, 10, 9, 20, 0), 0, "xx.x");
        kept("the first point once more", Recipes.line(0, 0, 0, 0, 20, 0), 3, "x.x");
    }

    private static void divisionGoesOnInBothParts() {
        TileServer server = Recipes.line(0, 0, 8, 20, 16, 0, 24, 40, 32, 0, 40, 20, 48, 0);
        kept("all peaks", server, 0, "xxxxxxx");
        // A spiral is divided at one point after the other.
        server = Recipes.line(0, 0, 64, 0, 64, 64, 10, 64, 10, 10, 50, 10, 50, 50, 20, 50, 20, 20);
        kept("a spiral", server, 0, "xxxxxxxxx");
        server = Recipes.line(0, 0, 10, 1, 20, 0, 30, 1, 40, 30, 41, 40, 42, 30, 43, 30, 44, 0);
        kept("little and great ones, level 0", server, 0, "x..x.x..x");
        kept("little and great ones, level 3", server, 3, "xxxxxxxxx");
    }

    private static void changesOfALineChangeWhatIsKept() {
        TileServer server = Recipes.line(0, 0, 10, 3, 20, 0);
        server.extend(1, 20, 30);
        kept("after extend", server, 0, "x.xx");
        server.movePoint(1, 1, 10, 30);
        kept("after movePoint", server, 0, "xxxx");
        server.dropPoint(1, 2);
        kept("after dropPoint", server, 0, "xxx");
        server.dropPoint(1, 1);
        kept("after the second dropPoint", server, 0, "xx");
    }

    private static void promises18To20Refuse() {
        for (int wrong : NO_NUMBERS) {
            CHECK.refused("isKept of " + wrong, SimplifyTest::lineAndArea, NO_SHAPE, s -> s.isKept(wrong, -1, -1));
            CHECK.refused("isKeptByMarks of " + wrong, SimplifyTest::lineAndArea, NO_SHAPE, s -> s.isKeptByMarks(wrong, -1, -1));
            CHECK.refused("keptPoints of " + wrong, SimplifyTest::lineAndArea, NO_SHAPE, s -> s.keptPoints(wrong, -1));
        }
        CHECK.refused("isKept of an area", SimplifyTest::lineAndArea, OTHER_KIND, s -> s.isKept(2, 4, -1));
        CHECK.refused("isKeptByMarks of an area", SimplifyTest::lineAndArea, OTHER_KIND, s -> s.isKeptByMarks(2, 4, -1));
        CHECK.refused("keptPoints of an area", SimplifyTest::lineAndArea, OTHER_KIND, s -> s.keptPoints(2, 4));
        for (int wrong : NO_LEVELS) {
            CHECK.refused("isKept at level " + wrong, SimplifyTest::lineAndArea, NO_INDEX, s -> s.isKept(1, wrong, 0));
            CHECK.refused("isKeptByMarks at level " + wrong, SimplifyTest::lineAndArea, NO_INDEX, s -> s.isKeptByMarks(1, wrong, 0));
            CHECK.refused("keptPoints at level " + wrong, SimplifyTest::lineAndArea, NO_INDEX, s -> s.keptPoints(1, wrong));
        }
        for (int wrong : new int[] {-1, 3, 32, Integer.MIN_VALUE, Integer.MAX_VALUE}) {
            CHECK.refused("isKept of the point " + wrong, SimplifyTest::lineAndArea, NO_INDEX, s -> s.isKept(1, 0, wrong));
            CHECK.refused("isKeptByMarks of the point " + wrong, SimplifyTest::lineAndArea, NO_INDEX, s -> s.isKeptByMarks(1, 0, wrong));
        }
    }

    private static void promise38MeanKept() {
        TileServer server = Recipes.line(0, 0, 10, 3, 20, 0);
        CHECK.same("mean of one line, level 0", server.meanKept(0), 2.0);
        CHECK.same("mean of one line, level 3", server.meanKept(3), 3.0);
        server.addArea(9, 9, 9, 9);
        server.addLine(0, 0, 1, 1);
        server.addLine(0, 0, 1, 1);
        CHECK.same("mean of three lines, level 0", server.meanKept(0), 2.0);
        CHECK.same("mean of three lines, level 3", server.meanKept(3), 7.0 / 3.0);
        server.setTolerance(3, 9);
        CHECK.same("mean after setTolerance", server.meanKept(3), 2.0);
        for (int wrong : NO_LEVELS) {
            CHECK.refused("meanKept at " + wrong, SimplifyTest::lineAndArea, NO_INDEX, s -> s.meanKept(wrong));
            CHECK.refused("meanKept of no lines at " + wrong, SimplifyTest::onlyArea, NO_INDEX, s -> s.meanKept(wrong));
        }
        CHECK.refused("meanKept of nothing", TileServer::new, ArithmeticException.class, s -> s.meanKept(0));
        CHECK.refused("meanKept of no lines", SimplifyTest::onlyArea, ArithmeticException.class, s -> s.meanKept(3));
    }

    private static TileServer onlyArea() {
        TileServer server = lineAndArea();
        server.remove(1);
        return server;
    }
}
