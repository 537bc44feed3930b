/** Edges of 'Simplifying' in the document, and of its promises 10, 18 to 20 and 38; one test for each sentence. */
public final class SimplifyEdgesTest {
    private static final Check CHECK = new Check();

    public static void main(String[] args) {
        theFirstTolerancesAre4And2And1And0();
        theFirstAndTheLastPointAreKept();
        withTwoPointsThereIsNoneBetween();
        asFarAsTheToleranceIsNotKept();
        somewhatFartherThanTheToleranceIsKept();
        asFarAslantAsTheToleranceIsNotKept();
        bothSidesOfTheStraightLineCount();
        theToleranceCanBe0();
        theToleranceCanBe9();
        theStraightLineGoesBeyondBothPoints();
        theFirstOfSeveralFarthestIsKept();
        theFirstOfSeveralFarthestOnBothSides();
        theFarthestIsKeptThoughOthersComeFirst();
        onlyTheFarthestIsComparedWithTheTolerance();
        itGoesOnBetweenNewNeighbours();
        itGoesOnThroughAllPointsFromTheFront();
        itGoesOnThroughAllPointsFromTheBack();
        atTheSamePlaceTheDistanceToThisPlaceCounts();
        asFarFromThisPlaceAsTheToleranceIsNotKept();
        theFirstOfSeveralFarthestFromAPlace();
        aPlaceThatIsMetAgainBetween();
        allPointsAtTheSamePlace();
        theLongestLinesOfTheMap();
        aToleranceIsThatOfItsLevelOnly();
        setToleranceReturnsTheOneBefore();
        setToleranceHoldsForLinesBeforeAndAfterwards();
        keptPointsFrom2To9();
        whatIsKeptFollowsEachChange();
        meanKeptOfOneLine();
        meanKeptOfTwelveLines();
        meanKeptOfNoWholeNumber();
        meanKeptLeavesAreasAway();
        meanKeptLeavesPointsAwayThatAreNotKept();
        meanKeptNeedsALine();
        CHECK.end();
    }

    /** Checks all that tells which points of the line 1 are kept at a level: 'x' stands for one that is. */
    private static void kept(TileServer server, int level, String due) {
        StringBuilder divided = new StringBuilder();
        StringBuilder marked = new StringBuilder();
        for (int i = 0; i < server.points(1); i++) {
            divided.append(server.isKept(1, level, i) ? 'x' : '.');
            marked.append(server.isKeptByMarks(1, level, i) ? 'x' : '.');
        }
        CHECK.same("isKept at " + level, divided.toString(), due);
        CHECK.same("isKeptByMarks at " + level, marked.toString(), due);
        CHECK.same("keptPoints at " + level, server.keptPoints(1, level), due.replace(".", "").length());
    }

    /** Checks it for a tolerance, at each level. */
    private static void keptWithin(int tolerance, String due, int... coordinates) {
        for (int level = 0; level < 4; level++) {
            TileServer server = Recipes.line(coordinates);
            server.setTolerance(level, tolerance);
            kept(server, level, due);
        }
    }

    private static void theFirstTolerancesAre4And2And1And0() {
        int[] first = {4, 2, 1, 0};
        for (int level = 0; level < 4; level++) {
            CHECK.same("the first tolerance of " + level, new TileServer().setTolerance(level, 7), first[level]);
            kept(Recipes.line(0, 20, 10, 20 + first[level], 20, 20), level, "x.x");
            kept(Recipes.line(0, 20, 10, 21 + first[level], 20, 20), level, "xxx");
        }
    }

    private static void theFirstAndTheLastPointAreKept() {
        keptWithin(9, "xx", 5, 5, 5, 5);
        keptWithin(9, "x.x", 5, 5, 5, 5, 5, 5);
        keptWithin(9, "x.......x", 5, 5, 6, 6, 7, 7, 8, 8, 9, 9, 10, 10, 11, 11, 12, 12, 13, 13);
    }

    private static void withTwoPointsThereIsNoneBetween() {
        keptWithin(0, "xx", 0, 0, 64, 64);
        keptWithin(9, "xx", 0, 0, 64, 64);
    }

    private static void asFarAsTheToleranceIsNotKept() {
        for (int tolerance = 0; tolerance <= 9; tolerance++) {
            keptWithin(tolerance, "x.x", 0, 30, 10, 30 + tolerance, 20, 30);
            keptWithin(tolerance, "x.x", 30, 0, 30 - tolerance, 7, 30, 20);
        }
    }

    private static void somewhatFartherThanTheToleranceIsKept() {
        for (int tolerance = 0; tolerance <= 9; tolerance++) {
            keptWithin(tolerance, "xxx", 0, 30, 10, 31 + tolerance, 20, 30);
            keptWithin(tolerance, "xxx", 30, 0, 29 - tolerance, 7, 30, 20);
        }
        // From (0, 0) to (64, 63), about 89.8 long, these are 89 and 90 parts of that length away.
        keptWithin(1, "x.x", 0, 0, 25, 26, 64, 63);
        keptWithin(1, "xxx", 0, 0, 26, 27, 64, 63);
    }

    private static void asFarAslantAsTheToleranceIsNotKept() {
        // From (0, 0) to (8, 6) it is 10 long, from (0, 0) to (40, 30) 50.
        keptWithin(4, "x.x", 0, 0, 0, 5, 8, 6);
        keptWithin(3, "xxx", 0, 0, 0, 5, 8, 6);
        keptWithin(8, "x.x", 0, 0, 0, 10, 40, 30);
        keptWithin(8, "xxx", 0, 0, 0, 11, 40, 30);
        keptWithin(7, "xxx", 0, 0, 0, 10, 40, 30);
    }

    private static void bothSidesOfTheStraightLineCount() {
        keptWithin(4, "x.x", 0, 20, 10, 16, 20, 20);
        keptWithin(4, "xxx", 0, 20, 10, 15, 20, 20);
        keptWithin(1, "x.x", 0, 0, 39, 37, 64, 63);
        keptWithin(1, "xxx", 0, 0, 38, 36, 64, 63);
        keptWithin(4, "x.x", 20, 20, 10, 16, 0, 20);
        keptWithin(4, "xxx", 20, 20, 10, 25, 0, 20);
    }

    private static void theToleranceCanBe0() {
        keptWithin(0, "x.x", 0, 0, 21, 21, 64, 64);
        keptWithin(0, "xxx", 0, 0, 21, 22, 64, 64);
        // The least distance of all: one part of a length of about 90.
        keptWithin(0, "xxx", 0, 0, 63, 62, 64, 63);
        keptWithin(0, "x.x", 0, 0, 32, 16, 64, 32);
    }

    private static void theToleranceCanBe9() {
        keptWithin(9, "x.x", 0, 0, 30, 9, 64, 0);
        keptWithin(9, "xxx", 0, 0, 30, 10, 64, 0);
    }

    private static void theStraightLineGoesBeyondBothPoints() {
        keptWithin(0, "x.x", 0, 10, 60, 10, 20, 10);
        keptWithin(0, "x.x", 40, 10, 0, 10, 60, 10);
        keptWithin(2, "x.x", 0, 10, 64, 12, 20, 10);
        keptWithin(2, "xxx", 0, 10, 64, 13, 20, 10);
        keptWithin(2, "x.x", 50, 10, 0, 8, 60, 10);
        keptWithin(2, "xxx", 50, 10, 0, 7, 60, 10);
    }

    private static void theFirstOfSeveralFarthestIsKept() {
        // With the first one kept, the others are less than 4 away.
        keptWithin(4, "xx.x", 0, 0, 5, 5, 15, 5, 20, 0);
        keptWithin(4, "xx..x", 0, 0, 5, 5, 10, 5, 15, 5, 20, 0);
        keptWithin(4, "x.x.x", 0, 0, 5, 4, 10, 5, 15, 5, 20, 0);
        // At the same place, too.
        keptWithin(4, "xx.x", 0, 0, 10, 5, 10, 5, 20, 0);
    }

    private static void theFirstOfSeveralFarthestOnBothSides() {
        // Both are 5 away; the second one lies on the straight line through the first one and the end.
        keptWithin(4, "xx.x", 0, 30, 20, 35, 40, 25, 30, 30);
        keptWithin(4, "xx.x", 0, 30, 20, 25, 40, 35, 30, 30);
        keptWithin(4, "xx.x", 30, 0, 25, 20, 35, 40, 30, 30);
    }

    private static void theFarthestIsKeptThoughOthersComeFirst() {
        keptWithin(4, "x.xx", 0, 0, 4, 5, 15, 6, 20, 0);
        keptWithin(4, "x..xx", 0, 0, 4, 5, 10, 6, 15, 7, 20, 0);
    }

    private static void onlyTheFarthestIsComparedWithTheTolerance() {
        // The point 2 is 4 away from the whole line; only with the point 3 kept, it would be farther.
        keptWithin(4, "x...x", 0, 30, 10, 34, 20, 26, 30, 34, 40, 30);
        keptWithin(3, "xxxxx", 0, 30, 10, 34, 20, 26, 30, 34, 40, 30);
    }

    private static void itGoesOnBetweenNewNeighbours() {
        // The point 1 lies on the straight line, but far from the new ones that lead to the point 2.
        keptWithin(4, "xxxx", 0, 30, 20, 30, 40, 60, 60, 30);
        keptWithin(4, "xxxx", 0, 30, 20, 60, 40, 30, 60, 30);
        // This one is 15 away from the whole line, but lies on the new one.
        keptWithin(4, "x.xx", 0, 0, 15, 15, 30, 30, 60, 0);
        keptWithin(4, "xx.x", 0, 0, 30, 30, 45, 15, 60, 0);
    }

    private static void itGoesOnThroughAllPointsFromTheFront() {
        // Of what is left, the point behind the first one is the farthest each time, so that only one is kept at once.
        keptWithin(0, "xxxxxxxxx", 2, 47, 8, 10, 34, 13, 6, 12, 23, 52, 17, 14, 20, 24, 28, 41, 27, 38);
    }

    private static void itGoesOnThroughAllPointsFromTheBack() {
        keptWithin(0, "xxxxxxxxx", 27, 38, 28, 41, 20, 24, 17, 14, 23, 52, 6, 12, 34, 13, 8, 10, 2, 47);
    }

    private static void atTheSamePlaceTheDistanceToThisPlaceCounts() {
        keptWithin(4, "xxx", 10, 10, 15, 10, 10, 10);
        keptWithin(4, "xxx", 10, 10, 10, 5, 10, 10);
        keptWithin(4, "xxx", 10, 10, 13, 14, 10, 10);
        keptWithin(9, "xxx", 0, 0, 64, 64, 0, 0);
    }

    private static void asFarFromThisPlaceAsTheToleranceIsNotKept() {
        keptWithin(0, "x.x", 10, 10, 10, 10, 10, 10);
        keptWithin(0, "xxx", 10, 10, 10, 11, 10, 10);
        keptWithin(5, "x.x", 10, 10, 13, 14, 10, 10);
        keptWithin(5, "xxx", 10, 10, 14, 14, 10, 10);
        keptWithin(9, "x.x", 10, 10, 10, 1, 10, 10);
        keptWithin(9, "xxx", 10, 10, 11, 1, 10, 10);
    }

    private static void theFirstOfSeveralFarthestFromAPlace() {
        keptWithin(4, "xx.x", 10, 10, 13, 14, 14, 13, 10, 10);
        keptWithin(4, "x.xx", 10, 10, 13, 14, 14, 14, 10, 10);
        // On both sides of the place, on a straight line with it.
        keptWithin(4, "xx.x", 10, 10, 13, 14, 7, 6, 10, 10);
    }

    private static void aPlaceThatIsMetAgainBetween() {
        // The point 2 lies where the first one lies, which matters only if both are neighbours.
        keptWithin(4, "xxxx", 10, 10, 30, 30, 10, 10, 64, 10);
        keptWithin(4, "x..x", 10, 10, 12, 14, 10, 10, 64, 10);
        keptWithin(4, "xx..x", 10, 10, 30, 30, 10, 10, 30, 30, 10, 10);
        keptWithin(4, "xxxxx", 10, 10, 30, 30, 10, 10, 30, 29, 10, 30);
    }

    private static void allPointsAtTheSamePlace() {
        keptWithin(0, "x.......x", 9, 9, 9, 9, 9, 9, 9, 9, 9, 9, 9, 9, 9, 9, 9, 9, 9, 9);
    }

    private static void theLongestLinesOfTheMap() {
        // Squares of products are the greatest here: the corner is 45.25 away from a line that is 90.5 long.
        keptWithin(9, "xxx", 0, 0, 0, 64, 64, 64);
        keptWithin(9, "xxx", 64, 64, 64, 0, 0, 0);
        keptWithin(9, "xxxxxxxxx", 0, 0, 64, 0, 64, 64, 0, 64, 0, 0, 64, 64, 0, 64, 64, 0, 0, 0);
        // 13 beside one another aslant are 9.19 away, 12 are 8.49.
        keptWithin(9, "xxx", 0, 0, 20, 33, 64, 64);
        keptWithin(9, "x.x", 0, 0, 20, 32, 64, 64);
    }

    private static void aToleranceIsThatOfItsLevelOnly() {
        for (int level = 0; level < 4; level++) {
            TileServer server = Recipes.line(0, 20, 10, 25, 20, 20);
            server.setTolerance(level, 5);
            for (int other = 0; other < 4; other++) {
                kept(server, other, other == level ? "x.x" : "xxx");
            }
        }
    }

    private static void setToleranceReturnsTheOneBefore() {
        for (int level = 0; level < 4; level++) {
            TileServer server = new TileServer();
            server.setTolerance(level, 0);
            for (int tolerance = 1; tolerance <= 9; tolerance++) {
                CHECK.same("the one before at " + level, server.setTolerance(level, tolerance), tolerance - 1);
            }
            CHECK.same("the greatest before itself", server.setTolerance(level, 9), 9);
            CHECK.same("the greatest before the least", server.setTolerance(level, 0), 9);
        }
    }

    private static void setToleranceHoldsForLinesBeforeAndAfterwards() {
        TileServer server = Recipes.line(0, 20, 10, 25, 20, 20);
        server.setTolerance(0, 9);
        kept(server, 0, "x.x");
        server.addLine(0, 20, 10, 25);
        server.extend(2, 20, 20);
        CHECK.same("a line made afterwards", server.keptPoints(2, 0), 2);
        server.setTolerance(0, 0);
        kept(server, 0, "xxx");
        CHECK.same("both lines", server.keptPoints(2, 0), 3);
    }

    private static void keptPointsFrom2To9() {
        for (int count = 2; count <= 9; count++) {
            TileServer server = Recipes.line(0, 0, 7, 20);
            for (int i = 2; i < count; i++) {
                server.extend(1, 7 * i, i % 2 * 20);
            }
            kept(server, 3, "x".repeat(count));
            server.setTolerance(3, 9);
            CHECK.same("keptPoints of " + count, server.keptPoints(1, 3), count);
        }
        kept(Recipes.line(0, 0, 1, 0, 2, 0, 3, 0, 4, 0, 5, 0, 6, 0, 7, 0, 8, 0), 3, "x.......x");
    }

    private static void whatIsKeptFollowsEachChange() {
        TileServer server = Recipes.line(0, 0, 10, 3, 20, 0);
        kept(server, 0, "x.x");
        server.movePoint(1, 0, 0, 10);
        kept(server, 0, "x.x");
        server.movePoint(1, 2, 20, 10);
        kept(server, 0, "xxx");
        server.extend(1, 21, 10);
        kept(server, 0, "xx.x");
        server.dropPoint(1, 3);
        kept(server, 0, "xxx");
        server.dropPoint(1, 1);
        kept(server, 0, "xx");
    }

    private static void meanKeptOfOneLine() {
        CHECK.same("the least mean", Recipes.line(0, 0, 1, 1).meanKept(0), 2.0);
        CHECK.same("a mean of 3", Recipes.line(0, 0, 10, 30, 20, 0).meanKept(3), 3.0);
    }

    private static TileServer twelveLinesOf9() {
        TileServer server = new TileServer();
        for (int line = 1; line <= 12; line++) {
            server.addLine(0, 0, 7, 20);
            for (int i = 2; i < 9; i++) {
                server.extend(line, 7 * i, i % 2 * 20);
            }
        }
        return server;
    }

    private static void meanKeptOfTwelveLines() {
        TileServer server = twelveLinesOf9();
        for (int level = 0; level < 4; level++) {
            CHECK.same("the greatest mean", server.meanKept(level), 9.0);
        }
        server.dropPoint(12, 8);
        CHECK.same("one point less of 108", server.meanKept(0), 107.0 / 12.0);
    }

    private static void meanKeptOfNoWholeNumber() {
        TileServer server = Recipes.line(0, 0, 10, 30, 20, 0);
        server.addLine(0, 0, 1, 1);
        CHECK.same("the mean of two", server.meanKept(0), 2.5);
        server.addLine(0, 0, 1, 1);
        CHECK.same("the mean of three", server.meanKept(0), 7.0 / 3.0);
    }

    private static void meanKeptLeavesAreasAway() {
        TileServer server = Recipes.area(9, 9, 9, 9);
        server.addLine(0, 0, 1, 1);
        server.addArea(9, 9, 9, 9);
        CHECK.same("one line between areas", server.meanKept(2), 2.0);
    }

    private static void meanKeptLeavesPointsAwayThatAreNotKept() {
        TileServer server = Recipes.line(0, 0, 10, 3, 20, 0);
        server.addLine(0, 0, 10, 5);
        server.extend(2, 20, 0);
        double[] means = {2.5, 3.0, 3.0, 3.0};
        for (int level = 0; level < 4; level++) {
            CHECK.same("the mean at " + level, server.meanKept(level), means[level]);
            server.setTolerance(level, 9);
            CHECK.same("the mean within 9 at " + level, server.meanKept(level), 2.0);
        }
    }

    private static TileServer withoutItsLine() {
        TileServer server = Recipes.plain();
        server.remove(1);
        return server;
    }

    private static void meanKeptNeedsALine() {
        for (int i = 0; i < 4; i++) {
            int level = i;
            CHECK.refused("meanKept of nothing", TileServer::new, ArithmeticException.class, s -> s.meanKept(level));
            CHECK.refused("meanKept of an area", SimplifyEdgesTest::withoutItsLine, ArithmeticException.class, s -> s.meanKept(level));
        }
    }
}
