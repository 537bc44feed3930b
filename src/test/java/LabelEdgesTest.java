import java.util.NoSuchElementException;

/** Edges of 'Labels' in the document, and of its promises 9 and 33 to 36; one test for each sentence. */
public final class LabelEdgesTest {
    private static final Class<?> NO_SHAPE = NoSuchElementException.class;
    private static final Class<?> NO_LABEL = IllegalStateException.class;
    private static final Check CHECK = new Check();

    public static void main(String[] args) {
        theLeastAndTheGreatestWidthAreCountedInCells();
        theHeightIsOneCell();
        theMiddleOfAnAreaIsItsCentre();
        theMiddleOfALineIsThatOfItsLeastAndGreatestCoordinates();
        theMiddleOfALineIsByAllOfItsPoints();
        aMiddleCanLieBetweenWholeCoordinates();
        theFourPlacesLieAroundTheMiddle();
        theFirstPlaceIsTakenThoughOthersFit();
        aLabelCanTouchTheRightBorderOfTheMap();
        aLabelCanTouchTheLeftBorderOfTheMap();
        aLabelCanTouchTheUpperBorderOfTheMap();
        aLabelCanTouchTheLowerBorderOfTheMap();
        aLabelCanBeAsLongAsTheMap();
        aLabelInACornerOfTheMap();
        labelsCanTouchSideBySide();
        labelsCanTouchOneUponTheOther();
        labelsCanTouchInACorner();
        theLeastOverlapIsTooMuch();
        aLabelWithinAnotherOverlapsIt();
        aLabelAroundAnotherOverlapsIt();
        eachLabelThatHasBeenPutIsInTheWay();
        aLabelThatIsNotShownIsNotInTheWay();
        aLabelThatIsPutLaterIsNotInTheWay();
        theGreatestRankComesFirst();
        ranksFrom9To1();
        ofTheSameRankTheLeastNumberComesFirst();
        ofTheSameRankTheLeastNumberThatIsLeftComesFirst();
        aNewLabelStandsInPlaceOfTheOneBefore();
        aLabelTakenAwayIsInNoOnesWay();
        aShapeTakenAwayTakesItsLabelAlong();
        aLabelFollowsItsShape();
        eachLevelHasPlacesOfItsOwn();
        aHiddenLabelHasNoPlace();
        aLabelAtTheCoordinate0();
        aShapeWithoutALabelHasNoPlace();
        whatIsNoShapeHasNoPlace();
        shownLabelsFromNoneToTwelve();
        shownLabelsLeavesHiddenOnesAway();
        CHECK.end();
    }

    /** Checks all three answers about a label; before each one, another level is asked about, which must not matter. */
    private static void label(TileServer server, int shape, int level, char place, int left, int low) {
        String what = " of the label of " + shape + " at " + level;
        server.shownLabels((level + 1) % 4);
        CHECK.same("labelLow" + what, server.labelLow(shape, level), low);
        server.shownLabels((level + 2) % 4);
        CHECK.same("labelLeft" + what, server.labelLeft(shape, level), left);
        server.shownLabels((level + 3) % 4);
        CHECK.same("placeOf" + what, server.placeOf(shape, level), place);
    }

    /** Checks the label of an area that is alone on the map. */
    private static void alone(int x, int y, int width, int level, char place, int left, int low) {
        label(areas(width, x, y), 1, level, place, left, low);
    }

    /** Areas with these centres, each with a label of the same width and of the rank 5. */
    private static TileServer areas(int width, int... centres) {
        TileServer server = new TileServer();
        for (int i = 0; i < centres.length; i += 2) {
            server.setLabel(server.addArea(centres[i], centres[i + 1], 1, 1), width, 5);
        }
        return server;
    }

    private static String places(TileServer server, int level) {
        StringBuilder text = new StringBuilder();
        for (int shape = 1; shape <= server.shapes(); shape++) {
            text.append(server.placeOf(shape, level));
        }
        return text.toString();
    }

    private static void theLeastAndTheGreatestWidthAreCountedInCells() {
        int[] side = {8, 4, 2, 1};
        for (int level = 0; level < 4; level++) {
            for (int width = 1; width <= 8; width++) {
                // At the right border of the map, all of the label lies to the left.
                alone(64, 32, width, level, 'l', 2 * (64 - width * side[level]), 64 - side[level]);
            }
        }
    }

    private static void theHeightIsOneCell() {
        int[] side = {8, 4, 2, 1};
        for (int level = 0; level < 4; level++) {
            alone(20, 64, 1, level, 'b', 40 - side[level], 128 - 2 * side[level]);
            alone(20, 32, 1, level, 'r', 40, 64 - side[level]);
        }
        // Two of the height 4 are 4 apart, two of them are 3 apart.
        CHECK.same("4 apart", places(areas(2, 20, 20, 20, 24), 1), "rr");
        CHECK.same("3 apart", places(areas(2, 20, 20, 20, 23), 1), "rl");
    }

    private static void theMiddleOfAnAreaIsItsCentre() {
        // Most of these areas lies outside of the map.
        TileServer server = Recipes.area(5, 60, 20, 40);
        server.setLabel(1, 1, 1);
        label(server, 1, 3, 'r', 10, 119);
        server = Recipes.area(1, 64, 20, 20);
        server.setLabel(1, 1, 1);
        label(server, 1, 3, 'b', 1, 126);
    }

    private static void theMiddleOfALineIsThatOfItsLeastAndGreatestCoordinates() {
        TileServer server = Recipes.line(0, 64, 64, 0);
        server.setLabel(1, 2, 5);
        label(server, 1, 3, 'r', 64, 63);
        server = Recipes.line(30, 10, 10, 30, 12, 60, 20, 20);
        server.setLabel(1, 2, 5);
        label(server, 1, 3, 'r', 40, 69);
    }

    private static void theMiddleOfALineIsByAllOfItsPoints() {
        // The point between lies beyond the end of its straight line, so that it is kept at no level.
        TileServer server = Recipes.line(10, 20, 50, 20, 30, 20);
        server.setLabel(1, 2, 5);
        CHECK.same("kept points", server.keptPoints(1, 3), 2);
        for (int level = 1; level < 4; level++) {
            CHECK.same("labelLeft at " + level, server.labelLeft(1, level), 60);
        }
        server.dropPoint(1, 1);
        CHECK.same("labelLeft without it", server.labelLeft(1, 3), 40);
    }

    private static void aMiddleCanLieBetweenWholeCoordinates() {
        TileServer server = Recipes.line(10, 20, 11, 21);
        server.setLabel(1, 1, 5);
        label(server, 1, 3, 'r', 21, 40);
        label(server, 1, 2, 'r', 21, 39);
        label(server, 1, 0, 'r', 21, 33);
        server = Recipes.line(63, 63, 64, 64);
        server.setLabel(1, 1, 5);
        // To the right, it would end at 64.5; to the left, it ends at 63.5 and is as high as the map.
        label(server, 1, 3, 'l', 125, 126);
    }

    private static void theFourPlacesLieAroundTheMiddle() {
        alone(20, 20, 3, 3, 'r', 40, 39);
        alone(63, 20, 3, 3, 'l', 120, 39);
        alone(20, 0, 3, 3, 'a', 37, 0);
        alone(20, 64, 3, 3, 'b', 37, 126);
        alone(20, 20, 1, 1, 'r', 40, 36);
        alone(63, 20, 1, 1, 'l', 118, 36);
        alone(20, 1, 1, 1, 'a', 36, 2);
        alone(20, 63, 1, 1, 'b', 36, 118);
    }

    private static void theFirstPlaceIsTakenThoughOthersFit() {
        CHECK.same("all four fit", places(areas(2, 32, 32), 2), "r");
        CHECK.same("three fit", places(areas(2, 62, 32), 2), "l");
        CHECK.same("both above and below fit", places(areas(8, 32, 32), 0), "a");
    }

    private static void aLabelCanTouchTheRightBorderOfTheMap() {
        alone(60, 32, 4, 3, 'r', 120, 63);
        alone(61, 32, 4, 3, 'l', 114, 63);
        alone(32, 32, 4, 0, 'r', 64, 56);
        alone(33, 32, 4, 0, 'l', 2, 56);
        TileServer server = Recipes.line(60, 32, 61, 32);
        server.setLabel(1, 4, 5);
        label(server, 1, 3, 'l', 113, 63);
        alone(36, 64, 7, 0, 'b', 16, 112);
        alone(37, 64, 7, 0, '-', -1, -1);
    }

    private static void aLabelCanTouchTheLeftBorderOfTheMap() {
        alone(40, 32, 5, 0, 'l', 0, 56);
        alone(39, 32, 5, 0, 'a', 38, 64);
        alone(28, 32, 7, 0, 'a', 0, 64);
        alone(27, 32, 7, 0, '-', -1, -1);
        TileServer server = Recipes.line(27, 32, 28, 32);
        server.setLabel(1, 7, 5);
        label(server, 1, 0, '-', -1, -1);
        server = Recipes.line(28, 32, 29, 32);
        server.setLabel(1, 7, 5);
        label(server, 1, 0, 'a', 1, 64);
    }

    private static void aLabelCanTouchTheUpperBorderOfTheMap() {
        alone(20, 60, 1, 0, 'r', 40, 112);
        alone(20, 61, 1, 0, 'b', 32, 106);
        alone(60, 60, 1, 0, 'l', 104, 112);
        alone(60, 61, 1, 0, 'b', 112, 106);
        alone(32, 56, 8, 0, 'a', 0, 112);
        alone(32, 57, 8, 0, 'b', 0, 98);
        alone(32, 64, 8, 0, 'b', 0, 112);
    }

    private static void aLabelCanTouchTheLowerBorderOfTheMap() {
        alone(20, 4, 1, 0, 'r', 40, 0);
        alone(20, 3, 1, 0, 'a', 32, 6);
        alone(60, 4, 1, 0, 'l', 104, 0);
        alone(60, 3, 1, 0, 'a', 112, 6);
        alone(32, 0, 8, 0, 'a', 0, 0);
        // Above them the first one lies, and below the second one has just enough room, or less.
        label(areas(8, 32, 8, 32, 8), 2, 0, 'b', 0, 0);
        label(areas(8, 32, 7, 32, 7), 2, 0, '-', -1, -1);
    }

    private static void aLabelCanBeAsLongAsTheMap() {
        alone(32, 20, 8, 0, 'a', 0, 40);
        alone(31, 20, 8, 0, '-', -1, -1);
        alone(33, 20, 8, 0, '-', -1, -1);
        alone(0, 20, 8, 0, 'r', 0, 32);
        alone(64, 20, 8, 0, 'l', 0, 32);
        alone(1, 20, 8, 0, '-', -1, -1);
        alone(63, 20, 8, 0, '-', -1, -1);
    }

    private static void aLabelInACornerOfTheMap() {
        for (int level = 0; level < 4; level++) {
            alone(0, 0, 1, level, '-', -1, -1);
            alone(64, 64, 1, level, '-', -1, -1);
        }
        alone(4, 0, 1, 0, 'a', 0, 0);
        alone(3, 0, 1, 0, '-', -1, -1);
        alone(0, 4, 1, 0, 'r', 0, 0);
        alone(60, 64, 1, 0, 'b', 112, 112);
        alone(64, 60, 1, 0, 'l', 112, 112);
    }

    private static void labelsCanTouchSideBySide() {
        label(areas(4, 20, 20, 24, 20), 2, 3, 'r', 48, 39);
        label(areas(4, 20, 20, 16, 20), 2, 3, 'r', 32, 39);
        label(areas(4, 20, 20, 20, 20), 2, 3, 'l', 32, 39);
        // At the border of the map, too.
        label(areas(4, 60, 20, 60, 20), 2, 3, 'l', 112, 39);
    }

    private static void labelsCanTouchOneUponTheOther() {
        label(areas(4, 20, 20, 20, 21), 2, 3, 'r', 40, 41);
        label(areas(4, 20, 20, 20, 19), 2, 3, 'r', 40, 37);
        label(areas(4, 20, 20, 22, 21), 2, 3, 'r', 44, 41);
    }

    private static void labelsCanTouchInACorner() {
        label(areas(4, 20, 20, 24, 21), 2, 3, 'r', 48, 41);
        label(areas(4, 20, 20, 16, 19), 2, 3, 'r', 32, 37);
        label(areas(4, 20, 20, 24, 19), 2, 3, 'r', 48, 37);
        label(areas(4, 20, 20, 16, 21), 2, 3, 'r', 32, 41);
    }

    /** An area at (20, 20), and a line whose middle is told in halves; both labels are 4 long. */
    private static TileServer areaAndLine(int twiceX, int twiceY) {
        TileServer server = areas(4, 20, 20);
        server.addLine(twiceX / 2, twiceY / 2, twiceX - twiceX / 2, twiceY - twiceY / 2);
        server.setLabel(2, 4, 5);
        return server;
    }

    private static void theLeastOverlapIsTooMuch() {
        // The first label lies from 20 to 24 and from 19.5 to 20.5. At first both touch, then they overlap by a half.
        label(areaAndLine(48, 40), 2, 3, 'r', 48, 39);
        label(areaAndLine(47, 40), 2, 3, '-', -1, -1);
        label(areaAndLine(32, 40), 2, 3, 'r', 32, 39);
        label(areaAndLine(33, 40), 2, 3, 'l', 25, 39);
        label(areaAndLine(40, 42), 2, 3, 'r', 40, 41);
        label(areaAndLine(40, 41), 2, 3, 'l', 32, 40);
        label(areaAndLine(40, 38), 2, 3, 'r', 40, 37);
        label(areaAndLine(40, 39), 2, 3, 'l', 32, 38);
    }

    private static void aLabelWithinAnotherOverlapsIt() {
        TileServer server = areas(8, 20, 20, 23, 20);
        server.setLabel(2, 1, 5);
        label(server, 2, 3, '-', -1, -1);
        server.moveArea(2, 5, 0);
        label(server, 2, 3, 'r', 56, 39);
    }

    private static void aLabelAroundAnotherOverlapsIt() {
        TileServer server = areas(8, 23, 20, 20, 20);
        server.setLabel(1, 1, 5);
        label(server, 1, 3, 'r', 46, 39);
        label(server, 2, 3, 'l', 24, 39);
    }

    private static void eachLabelThatHasBeenPutIsInTheWay() {
        char[] places = {'r', 'l', 'a', 'b'};
        int[][] corners = {{40, 39}, {32, 39}, {36, 40}, {36, 38}};
        for (int i = 0; i < 4; i++) {
            // Each of the first four has a part of one place of the fifth one, in the order of the places.
            TileServer server = areas(2, 22, 20, 16, 20, 18, 21, 20, 19, 20, 20);
            server.setLabel(5, 4, 1);
            CHECK.same("all places are taken", places(server, 3), "rrrr-");
            server.setLabel(i + 1, 0, 1);
            label(server, 5, 3, places[i], corners[i][0], corners[i][1]);
        }
    }

    private static void aLabelThatIsNotShownIsNotInTheWay() {
        CHECK.same("three at a place, one above", places(areas(2, 32, 32, 32, 32, 32, 32, 32, 33), 3), "rl-r");
        CHECK.same("what is too long, and another one", places(areas(8, 33, 32, 33, 32), 0), "--");
        TileServer server = areas(8, 33, 32, 33, 32);
        server.setLabel(2, 1, 5);
        CHECK.same("what is too long, and a short one", places(server, 0), "-r");
    }

    private static void aLabelThatIsPutLaterIsNotInTheWay() {
        TileServer server = areas(4, 20, 20, 20, 20);
        CHECK.same("the later one makes way", places(server, 3), "rl");
        server.setLabel(2, 8, 4);
        CHECK.same("a long one, too", places(server, 3), "rl");
        server.setLabel(1, 4, 1);
        CHECK.same("now the other one comes later", places(server, 3), "lr");
    }

    private static void theGreatestRankComesFirst() {
        for (int rank = 2; rank <= 9; rank++) {
            TileServer server = areas(2, 20, 20, 20, 20);
            server.setLabel(1, 2, rank - 1);
            server.setLabel(2, 2, rank);
            CHECK.same("rank " + rank + " comes first", places(server, 3), "lr");
            server.setLabel(1, 2, rank);
            CHECK.same("both of rank " + rank, places(server, 3), "rl");
        }
        TileServer server = areas(2, 20, 20, 20, 20);
        server.setLabel(1, 2, 1);
        server.setLabel(2, 2, 9);
        CHECK.same("the least and the greatest rank", places(server, 3), "lr");
    }

    private static void ranksFrom9To1() {
        // All of them are at one place, where there is room for two.
        TileServer server = new TileServer();
        for (int rank = 1; rank <= 9; rank++) {
            server.addArea(20, 20, 1, 1);
            server.setLabel(rank, 1, rank);
        }
        CHECK.same("the greatest two of nine", places(server, 3), "-------lr");
        for (int rank = 9; rank >= 3; rank--) {
            server.setLabel(rank, 0, 1);
            CHECK.same("rank " + (rank - 1), server.placeOf(rank - 1, 3), 'r');
            CHECK.same("rank " + (rank - 2), server.placeOf(rank - 2, 3), 'l');
        }
        server.setLabel(2, 0, 1);
        CHECK.same("the least rank is shown, too", server.placeOf(1, 3), 'r');
    }

    private static void ofTheSameRankTheLeastNumberComesFirst() {
        int[] twelve = new int[24];
        for (int i = 0; i < 24; i++) {
            twelve[i] = 20;
        }
        for (int rank = 1; rank <= 9; rank++) {
            TileServer server = areas(2, twelve);
            for (int shape = 12; shape >= 1; shape--) {
                server.setLabel(shape, 2, rank);
            }
            CHECK.same("twelve of rank " + rank, places(server, 3), "rl----------");
        }
    }

    private static void ofTheSameRankTheLeastNumberThatIsLeftComesFirst() {
        TileServer server = areas(2, 20, 20, 20, 20, 20, 20);
        server.remove(1);
        server.setLabel(server.addArea(20, 20, 1, 1), 2, 5);
        CHECK.same("the second one", server.placeOf(2, 3), 'r');
        CHECK.same("the third one", server.placeOf(3, 3), 'l');
        CHECK.same("the new one", server.placeOf(4, 3), '-');
    }

    private static void aNewLabelStandsInPlaceOfTheOneBefore() {
        TileServer server = areas(8, 20, 20, 24, 20);
        CHECK.same("the first one leaves no room", places(server, 3), "r-");
        server.setLabel(1, 1, 5);
        CHECK.same("a shorter one", places(server, 3), "rr");
        server.setLabel(1, 8, 1);
        CHECK.same("a longer one of the least rank", places(server, 3), "lr");
        server.setLabel(1, 8, 9);
        CHECK.same("the same one of the greatest rank", places(server, 3), "r-");
    }

    private static void aLabelTakenAwayIsInNoOnesWay() {
        TileServer server = areas(2, 20, 20, 20, 20);
        server.shownLabels(3);
        server.setLabel(1, 0, 9);
        label(server, 2, 3, 'r', 40, 39);
        CHECK.same("labels", server.shownLabels(3), 1);
    }

    private static void aShapeTakenAwayTakesItsLabelAlong() {
        TileServer server = areas(2, 20, 20, 20, 20);
        server.remove(1);
        label(server, 2, 3, 'r', 40, 39);
        CHECK.same("labels", server.shownLabels(3), 1);
        server.remove(2);
        CHECK.same("no labels", server.shownLabels(3), 0);
        server.addArea(20, 20, 1, 1);
        CHECK.same("a new shape has none", Check.answer(server, s -> s.placeOf(3, 3)), NO_LABEL.getName());
    }

    private static void aLabelFollowsItsShape() {
        TileServer server = areas(2, 20, 20);
        server.moveArea(1, 44, 44);
        label(server, 1, 3, '-', -1, -1);
        server.moveArea(1, -2, -10);
        label(server, 1, 3, 'r', 124, 107);
        server = Recipes.line(0, 0, 10, 10);
        server.setLabel(1, 2, 5);
        server.extend(1, 20, 30);
        label(server, 1, 3, 'r', 20, 29);
        server.movePoint(1, 0, 10, 10);
        label(server, 1, 3, 'r', 30, 39);
        server.dropPoint(1, 2);
        label(server, 1, 3, 'r', 20, 19);
    }

    private static void eachLevelHasPlacesOfItsOwn() {
        TileServer server = areas(2, 52, 32);
        label(server, 1, 0, 'l', 72, 56);
        label(server, 1, 1, 'r', 104, 60);
        label(server, 1, 2, 'r', 104, 62);
        label(server, 1, 3, 'r', 104, 63);
        label(server, 1, 0, 'l', 72, 56);
    }

    private static void aHiddenLabelHasNoPlace() {
        TileServer server = areas(8, 33, 32);
        label(server, 1, 0, '-', -1, -1);
        label(server, 1, 1, 'l', 2, 60);
        label(server, 1, 0, '-', -1, -1);
    }

    private static void aLabelAtTheCoordinate0() {
        alone(0, 32, 1, 3, 'r', 0, 63);
        alone(32, 0, 1, 3, 'a', 63, 0);
        alone(4, 0, 1, 0, 'a', 0, 0);
    }

    private static TileServer labelTakenAway() {
        TileServer server = areas(2, 20, 20, 20, 20);
        server.shownLabels(0);
        server.setLabel(1, 0, 1);
        return server;
    }

    private static void aShapeWithoutALabelHasNoPlace() {
        for (int i = 0; i < 4; i++) {
            int level = i;
            for (int shape = 1; shape <= 2; shape++) {
                int number = shape;
                CHECK.refused("placeOf", Recipes::plain, NO_LABEL, s -> s.placeOf(number, level));
                CHECK.refused("labelLeft", Recipes::plain, NO_LABEL, s -> s.labelLeft(number, level));
                CHECK.refused("labelLow", Recipes::plain, NO_LABEL, s -> s.labelLow(number, level));
            }
            CHECK.refused("placeOf one taken away", LabelEdgesTest::labelTakenAway, NO_LABEL, s -> s.placeOf(1, level));
            CHECK.refused("labelLeft of one taken away", LabelEdgesTest::labelTakenAway, NO_LABEL, s -> s.labelLeft(1, level));
            CHECK.refused("labelLow of one taken away", LabelEdgesTest::labelTakenAway, NO_LABEL, s -> s.labelLow(1, level));
            CHECK.taken("placeOf the other one", LabelEdgesTest::labelTakenAway, s -> s.placeOf(2, level));
        }
    }

    private static TileServer shapeTakenAway() {
        TileServer server = areas(2, 20, 20, 20, 20);
        server.remove(1);
        return server;
    }

    private static void whatIsNoShapeHasNoPlace() {
        CHECK.refused("placeOf what was taken away", LabelEdgesTest::shapeTakenAway, NO_SHAPE, s -> s.placeOf(1, 3));
        CHECK.refused("labelLeft of what was taken away", LabelEdgesTest::shapeTakenAway, NO_SHAPE, s -> s.labelLeft(1, 3));
        CHECK.refused("labelLow of what was taken away", LabelEdgesTest::shapeTakenAway, NO_SHAPE, s -> s.labelLow(1, 3));
        CHECK.refused("placeOf what was never made", LabelEdgesTest::shapeTakenAway, NO_SHAPE, s -> s.placeOf(3, 3));
        CHECK.refused("setLabel of what was taken away", LabelEdgesTest::shapeTakenAway, NO_SHAPE, s -> s.setLabel(1, 1, 1));
    }

    private static void shownLabelsFromNoneToTwelve() {
        TileServer server = new TileServer();
        for (int i = 1; i <= 12; i++) {
            server.addArea(20, 4 * i, 1, 1);
            CHECK.same("labels before the next one", server.shownLabels(3), i - 1);
            server.setLabel(i, 8, 5);
        }
        for (int level = 1; level < 4; level++) {
            CHECK.same("twelve labels at " + level, server.shownLabels(level), 12);
        }
        CHECK.same("labels of a new server", new TileServer().shownLabels(0), 0);
        CHECK.same("labels of shapes without one", Recipes.plain().shownLabels(0), 0);
    }

    private static void shownLabelsLeavesHiddenOnesAway() {
        TileServer server = areas(8, 33, 32);
        CHECK.same("one that is too long", server.shownLabels(0), 0);
        CHECK.same("one that is not too long", server.shownLabels(1), 1);
        CHECK.same("one that is too long, asked for again", server.shownLabels(0), 0);
        CHECK.same("two of three", areas(2, 32, 32, 32, 32, 32, 32).shownLabels(2), 2);
    }
}
