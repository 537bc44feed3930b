import java.util.NoSuchElementException;

/** Promises 33 to 36: where labels are put. */
public final class LabelsTest {
    private static final Class<?> NO_SHAPE = NoSuchElementException.class;
    private static final Class<?> NO_LABEL = IllegalStateException.class;
    private static final Class<?> NO_INDEX = IndexOutOfBoundsException.class;
    private static final int[] NO_LEVELS = {-1, 4, Integer.MIN_VALUE, Integer.MAX_VALUE};
    private static final int[] NO_NUMBERS = {-1, 0, 4, Integer.MIN_VALUE, Integer.MAX_VALUE};
    private static final Check CHECK = new Check();

    public static void main(String[] args) {
        theFourPlaces();
        placesWithinTheMap();
        theMiddleOfAShape();
        labelsGrowWithTheCells();
        placesThatAreTaken();
        labelsThatOnlyTouch();
        greaterRanksComeFirst();
        sameRanksComeByNumber();
        labelsFollowTheirShapes();
        promise36ShownLabels();
        promises33To36Refuse();
        CHECK.end();
    }

    /** Checks all that tells where a label is; another level is asked about between, which must not matter. */
    private static void label(String what, TileServer server, int shape, int level, char place, int left, int low) {
        int other = level == 0 ? 3 : level - 1;
        CHECK.same(what + ", placeOf", server.placeOf(shape, level), place);
        server.shownLabels(other);
        CHECK.same(what + ", labelLeft", server.labelLeft(shape, level), left);
        server.placeOf(shape, other);
        CHECK.same(what + ", labelLow", server.labelLow(shape, level), low);
        server.placeOf(shape, other);
    }

    /** Adds areas at one place, each with a label of the same width and rank. */
    private static TileServer atOnePlace(int x, int y, int count, int width) {
        TileServer server = new TileServer();
        for (int i = 1; i <= count; i++) {
            server.addArea(x, y, 1, 2);
            server.setLabel(i, width, 5);
        }
        return server;
    }

    private static void theFourPlaces() {
        // At level 3, the labels are 3 long and 1 high; the answers are doubled.
        TileServer server = atOnePlace(32, 20, 5, 3);
        label("right", server, 1, 3, 'r', 64, 39);
        label("left", server, 2, 3, 'l', 58, 39);
        // What is above or below begins in the middle of the height of both others.
        label("no room above or below", server, 3, 3, '-', -1, -1);
        server = atOnePlace(32, 20, 1, 3);
        label("alone at level 0", server, 1, 0, 'r', 64, 32);
        server = atOnePlace(32, 0, 2, 3);
        label("above at the lower border", server, 1, 3, 'a', 61, 0);
        label("nowhere at the lower border", server, 2, 3, '-', -1, -1);
        server = atOnePlace(32, 64, 2, 3);
        label("below at the upper border", server, 1, 3, 'b', 61, 126);
        label("nowhere at the upper border", server, 2, 3, '-', -1, -1);
    }

    private static void placesWithinTheMap() {
        label("just fits to the right", atOnePlace(56, 30, 1, 8), 1, 3, 'r', 112, 59);
        label("does not fit to the right", atOnePlace(57, 30, 1, 8), 1, 3, 'l', 98, 59);
        label("the same at level 0", atOnePlace(56, 32, 1, 1), 1, 0, 'r', 112, 56);
        label("too long for all", atOnePlace(33, 32, 1, 8), 1, 0, '-', -1, -1);
        label("as long as the map", atOnePlace(32, 32, 1, 8), 1, 0, 'a', 0, 64);
        label("as long as the map, at its upper border", atOnePlace(32, 64, 1, 8), 1, 0, 'b', 0, 112);
        label("half as long as the map", atOnePlace(32, 32, 1, 8), 1, 1, 'r', 64, 60);
        label("in the corner", atOnePlace(0, 0, 1, 1), 1, 0, '-', -1, -1);
        label("at the left border", atOnePlace(0, 32, 1, 8), 1, 0, 'r', 0, 56);
        label("at the right border", atOnePlace(64, 32, 1, 8), 1, 0, 'l', 0, 56);
        label("just fits above the lower border", atOnePlace(10, 4, 1, 1), 1, 0, 'r', 20, 0);
        label("does not fit above the lower border", atOnePlace(10, 3, 1, 1), 1, 0, 'a', 12, 6);
        label("just fits below the upper border", atOnePlace(10, 60, 1, 1), 1, 0, 'r', 20, 112);
        label("does not fit below the upper border", atOnePlace(10, 61, 1, 1), 1, 0, 'b', 12, 106);
    }

    private static void theMiddleOfAShape() {
        TileServer server = new TileServer();
        server.addLine(10, 40, 21, 31);
        server.setLabel(1, 2, 1);
        label("the middle of a line in halves", server, 1, 3, 'r', 31, 70);
        // This point is not kept at level 0, but counts.
        server.extend(1, 32, 22);
        server.movePoint(1, 1, 50, 9);
        server.setTolerance(0, 9);
        server.movePoint(1, 2, 48, 9);
        label("all of its points", server, 1, 0, 'r', 60, 41);
        server.addArea(5, 60, 20, 20);
        server.setLabel(2, 1, 1);
        label("the centre of an area that goes beyond the map", server, 2, 3, 'r', 10, 119);
        server = new TileServer();
        server.addLine(34, 10, 4, 10);
        server.extend(1, 40, 10);
        server.setLabel(1, 1, 1);
        label("a point that is kept at no level", server, 1, 3, 'r', 44, 19);
        server.dropPoint(1, 2);
        label("without the point that was dropped", server, 1, 3, 'r', 38, 19);
        server = new TileServer();
        server.addLine(20, 30, 4, 10);
        server.extend(1, 60, 64);
        server.dropPoint(1, 2);
        server.setLabel(1, 1, 1);
        label("the first point is the greatest one", server, 1, 3, 'r', 24, 39);
    }

    private static void labelsGrowWithTheCells() {
        TileServer server = atOnePlace(40, 32, 1, 3);
        label("level 0", server, 1, 0, 'r', 80, 56);
        label("level 1", server, 1, 1, 'r', 80, 60);
        label("level 2", server, 1, 2, 'r', 80, 62);
        label("level 3", server, 1, 3, 'r', 80, 63);
        server.setLabel(1, 4, 3);
        label("one more, level 0", server, 1, 0, 'l', 16, 56);
        label("one more, level 1", server, 1, 1, 'r', 80, 60);
    }

    private static void placesThatAreTaken() {
        TileServer server = atOnePlace(32, 32, 1, 4);
        server.addArea(32, 30, 1, 2);
        server.setLabel(2, 4, 5);
        label("taken to the right, level 0", server, 2, 0, 'l', 0, 52);
        server.addArea(32, 28, 1, 2);
        server.setLabel(3, 4, 5);
        // The first one lies from 28 to 36, the second one from 26 to 34.
        label("taken on both sides, level 0", server, 3, 0, '-', -1, -1);
        server.moveArea(3, 0, -2);
        label("room below, level 0", server, 3, 0, 'b', 32, 36);
        server.moveArea(3, 0, 11);
        label("room above, level 0", server, 3, 0, 'a', 32, 74);
        server.moveArea(3, 0, 1);
        label("room to the left, level 0", server, 3, 0, 'l', 0, 68);
    }

    private static void labelsThatOnlyTouch() {
        TileServer server = new TileServer();
        server.addArea(20, 20, 1, 1);
        server.addArea(24, 20, 1, 1);
        server.addArea(20, 21, 1, 1);
        for (int i = 1; i <= 3; i++) {
            server.setLabel(i, 4, 5);
        }
        label("the first one", server, 1, 3, 'r', 40, 39);
        label("side by side", server, 2, 3, 'r', 48, 39);
        label("one upon the other", server, 3, 3, 'r', 40, 41);
        server.moveArea(2, -1, 0);
        // Each of its places has a part of the first one.
        label("one less", server, 2, 3, '-', -1, -1);
        server.moveArea(2, 0, -1);
        label("one lower", server, 2, 3, 'r', 46, 37);
    }

    private static void greaterRanksComeFirst() {
        TileServer server = atOnePlace(32, 32, 3, 2);
        server.setLabel(3, 2, 9);
        server.setLabel(2, 2, 8);
        server.setLabel(1, 2, 7);
        CHECK.same("the greatest rank", server.placeOf(3, 2), 'r');
        CHECK.same("the next one", server.placeOf(2, 2), 'l');
        CHECK.same("the least one", server.placeOf(1, 2), '-');
        server.setLabel(1, 2, 9);
        CHECK.same("as great as the greatest", server.placeOf(1, 2), 'r');
        CHECK.same("the former greatest rank", server.placeOf(3, 2), 'l');
        CHECK.same("no room any more", server.placeOf(2, 2), '-');
        server.setLabel(2, 2, 1);
        server.setLabel(1, 2, 2);
        CHECK.same("the least rank of all", server.placeOf(2, 2), '-');
        CHECK.same("rank 2", server.placeOf(1, 2), 'l');
    }

    private static void sameRanksComeByNumber() {
        TileServer server = atOnePlace(32, 32, 3, 2);
        CHECK.same("the least number", server.placeOf(1, 1), 'r');
        CHECK.same("the next number", server.placeOf(2, 1), 'l');
        CHECK.same("the greatest number", server.placeOf(3, 1), '-');
        server.setLabel(1, 0, 1);
        CHECK.same("the least number that has a label", server.placeOf(2, 1), 'r');
        CHECK.same("the next one that has", server.placeOf(3, 1), 'l');
        server.setLabel(1, 2, 5);
        CHECK.same("the least number once more", server.placeOf(1, 1), 'r');
    }

    private static void labelsFollowTheirShapes() {
        TileServer server = atOnePlace(32, 32, 3, 2);
        server.remove(1);
        CHECK.same("a removed shape's place", server.placeOf(2, 3), 'r');
        server.moveArea(2, 10, 0);
        label("a moved shape's label", server, 2, 3, 'r', 84, 63);
        label("room for the other one", server, 3, 3, 'r', 64, 63);
        CHECK.same("a level between", server.placeOf(2, 0), 'r');
        label("another level asked before", server, 3, 3, 'r', 64, 63);
    }

    private static void promise36ShownLabels() {
        TileServer server = atOnePlace(32, 32, 5, 2);
        for (int level = 0; level < 4; level++) {
            CHECK.same("two of five", server.shownLabels(level), 2);
        }
        server.setLabel(1, 0, 1);
        CHECK.same("two of four", server.shownLabels(2), 2);
        server.setLabel(5, 8, 9);
        CHECK.same("one above, one below at level 0", server.shownLabels(0), 2);
        CHECK.same("too long at level 0", atOnePlace(33, 32, 1, 8).shownLabels(0), 0);
        CHECK.same("not too long at level 1", atOnePlace(33, 32, 1, 8).shownLabels(1), 1);
        server.addLine(0, 0, 1, 1);
        CHECK.same("a shape without a label", server.shownLabels(3), 2);
    }

    /** The areas 1 and 2 have labels, the line 3 has none. */
    private static TileServer twoOfThree() {
        TileServer server = atOnePlace(32, 32, 2, 2);
        server.addLine(0, 0, 1, 1);
        return server;
    }

    private static TileServer labelTakenAway() {
        TileServer server = twoOfThree();
        server.setLabel(3, 1, 1);
        server.setLabel(3, 0, 1);
        return server;
    }

    private static void promises33To36Refuse() {
        for (int wrong : NO_NUMBERS) {
            CHECK.refused("placeOf " + wrong, LabelsTest::twoOfThree, NO_SHAPE, s -> s.placeOf(wrong, 4));
            CHECK.refused("labelLeft of " + wrong, LabelsTest::twoOfThree, NO_SHAPE, s -> s.labelLeft(wrong, 4));
            CHECK.refused("labelLow of " + wrong, LabelsTest::twoOfThree, NO_SHAPE, s -> s.labelLow(wrong, 4));
        }
        CHECK.refused("placeOf no label", LabelsTest::twoOfThree, NO_LABEL, s -> s.placeOf(3, -1));
        CHECK.refused("labelLeft of no label", LabelsTest::twoOfThree, NO_LABEL, s -> s.labelLeft(3, 4));
        CHECK.refused("labelLow of no label", LabelsTest::labelTakenAway, NO_LABEL, s -> s.labelLow(3, 4));
        CHECK.refused("placeOf a label taken away", LabelsTest::labelTakenAway, NO_LABEL, s -> s.placeOf(3, 0));
        for (int wrong : NO_LEVELS) {
            CHECK.refused("placeOf at " + wrong, LabelsTest::twoOfThree, NO_INDEX, s -> s.placeOf(1, wrong));
            CHECK.refused("labelLeft at " + wrong, LabelsTest::twoOfThree, NO_INDEX, s -> s.labelLeft(1, wrong));
            CHECK.refused("labelLow at " + wrong, LabelsTest::twoOfThree, NO_INDEX, s -> s.labelLow(2, wrong));
            CHECK.refused("shownLabels at " + wrong, LabelsTest::twoOfThree, NO_INDEX, s -> s.shownLabels(wrong));
        }
    }
}
