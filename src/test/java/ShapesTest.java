import java.util.List;
import java.util.NoSuchElementException;
import java.util.function.Supplier;

/** Promises 1 to 9 and 12 to 17: shapes are made, changed, taken away and asked about. */
public final class ShapesTest {
    private static final Class<?> ILLEGAL = IllegalArgumentException.class;
    private static final Class<?> FULL = IllegalStateException.class;
    private static final Class<?> NO_SHAPE = NoSuchElementException.class;
    private static final Class<?> OTHER_KIND = UnsupportedOperationException.class;
    private static final Class<?> NO_INDEX = IndexOutOfBoundsException.class;
    private static final int[] OFF_MAP = {-1, 65, Integer.MIN_VALUE, Integer.MAX_VALUE};
    private static final int[] NO_NUMBERS = {-1, 0, 3, 13, Integer.MIN_VALUE, Integer.MAX_VALUE};
    private static final int[] NO_POINTS = {-1, 3, 9, Integer.MIN_VALUE, Integer.MAX_VALUE};
    private static final Check CHECK = new Check();

    public static void main(String[] args) {
        promise1NewObject();
        promise2AddLine();
        promise2AddLineRefuses();
        promise3Extend();
        promise3ExtendRefuses();
        promise4MovePoint();
        promise4MovePointRefuses();
        promise5DropPoint();
        promise5DropPointRefuses();
        promise6AddArea();
        promise6AddAreaRefuses();
        promise7MoveArea();
        promise7MoveAreaRefuses();
        promise8Remove();
        promise9SetLabel();
        promise9SetLabelRefuses();
        promise12Clock();
        promises13And14ShapesAndKinds();
        promises15To17Points();
        CHECK.end();
    }

    /** The line 1 from (8, 8) over (16, 24) to (40, 8), the area 2, and the cached tile of level 0. */
    private static TileServer lineAndArea() {
        TileServer server = new TileServer();
        server.addLine(8, 8, 16, 24);
        server.extend(1, 40, 8);
        server.addArea(32, 32, 5, 8);
        server.cellAt(0, 0, 0, 0, 0);
        return server;
    }

    private static TileServer full() {
        TileServer server = new TileServer();
        server.addLine(0, 0, 64, 64);
        for (int i = 3; i <= 9; i++) {
            server.extend(1, i, i);
        }
        for (int i = 2; i <= 12; i++) {
            server.addArea(5 * i, 5, 1, 1);
        }
        server.cellAt(0, 0, 0, 0, 0);
        return server;
    }

    private static void promise1NewObject() {
        TileServer server = new TileServer();
        CHECK.same("new clock", server.clock(), 0);
        CHECK.same("new shapes", server.shapes(), 0);
        CHECK.same("new cached", server.cached(), 0);
        CHECK.same("new misses", server.misses(), 0);
        CHECK.same("new drawn", server.drawn(), 0L);
        CHECK.same("new isFresh", server.isFresh(), true);
        for (int level = 0; level < 4; level++) {
            CHECK.same("new shownLabels", server.shownLabels(level), 0);
            for (int column = 0; column < 1 << level; column++) {
                for (int row = 0; row < 1 << level; row++) {
                    CHECK.same("new isCached", server.isCached(level, column, row), false);
                    CHECK.same("new segmentsIn", server.segmentsIn(level, column, row), 0);
                    CHECK.same("new cellByDrawing", server.cellByDrawing(level, column, row, 7, 0), 0);
                }
            }
        }
        CHECK.refused("a new hitShare", TileServer::new, ArithmeticException.class, s -> s.hitShare());
        CHECK.refused("a new kindOf", TileServer::new, NO_SHAPE, s -> s.kindOf(1));
        TileServer changed = lineAndArea();
        CHECK.same("shapes of another object", new TileServer().shapes() + changed.shapes(), 2);
    }

    private static void promise2AddLine() {
        TileServer server = new TileServer();
        CHECK.same("first line", server.addLine(0, 64, 64, 0), 1);
        CHECK.same("line at one place", server.addLine(7, 9, 7, 9), 2);
        CHECK.same("x of the first point", server.xOf(1, 0), 0);
        CHECK.same("y of the first point", server.yOf(1, 0), 64);
        CHECK.same("x of the other point", server.xOf(1, 1), 64);
        CHECK.same("y of the other point", server.yOf(1, 1), 0);
        CHECK.same("points of a new line", server.points(1), 2);
        server.remove(2);
        server.remove(1);
        CHECK.same("numbers are not used again", server.addLine(1, 2, 3, 4), 3);
        server = new TileServer();
        for (int i = 1; i <= 12; i++) {
            CHECK.same("lines up to the limit", server.addLine(i, 0, i, 9), i);
        }
        server.remove(5);
        CHECK.same("a line for one that was taken away", server.addLine(0, 0, 1, 1), 13);
    }

    private static void promise2AddLineRefuses() {
        for (int wrong : OFF_MAP) {
            for (Supplier<TileServer> recipe : List.<Supplier<TileServer>>of(ShapesTest::lineAndArea, ShapesTest::full)) {
                CHECK.refused("addLine with x1 " + wrong, recipe, ILLEGAL, s -> s.addLine(wrong, 1, 2, 3));
                CHECK.refused("addLine with y1 " + wrong, recipe, ILLEGAL, s -> s.addLine(1, wrong, 2, 3));
                CHECK.refused("addLine with x2 " + wrong, recipe, ILLEGAL, s -> s.addLine(1, 2, wrong, 3));
                CHECK.refused("addLine with y2 " + wrong, recipe, ILLEGAL, s -> s.addLine(1, 2, 3, wrong));
            }
        }
        CHECK.refused("a 13th shape", ShapesTest::full, FULL, s -> s.addLine(1, 2, 3, 4));
        TileServer server = new TileServer();
        refusedAddLine(server);
        CHECK.same("the number after a refused line", server.addLine(1, 1, 2, 2), 1);
    }

    private static void refusedAddLine(TileServer server) {
        try {
            server.addLine(0, 0, 0, 65);
            CHECK.same("addLine to 65", "taken", "refused");
        } catch (IllegalArgumentException expected) {
            CHECK.same("shapes after a refused line", server.shapes(), 0);
        }
    }

    private static void promise3Extend() {
        TileServer server = lineAndArea();
        CHECK.same("extend to 0, 64", server.extend(1, 0, 64), 4);
        CHECK.same("extend at the same place", server.extend(1, 0, 64), 5);
        CHECK.same("the new point's x", server.xOf(1, 3), 0);
        CHECK.same("the new point's y", server.yOf(1, 3), 64);
        CHECK.same("the point before it", server.xOf(1, 2), 40);
        for (int i = 6; i <= 9; i++) {
            CHECK.same("extend up to 9 points", server.extend(1, i, 2 * i), i);
        }
        CHECK.same("the ninth point", server.yOf(1, 8), 18);
    }

    private static void promise3ExtendRefuses() {
        for (int wrong : NO_NUMBERS) {
            CHECK.refused("extend of " + wrong, ShapesTest::lineAndArea, NO_SHAPE, s -> s.extend(wrong, 65, 1));
        }
        CHECK.refused("extend of an area", ShapesTest::lineAndArea, OTHER_KIND, s -> s.extend(2, 1, -1));
        for (int wrong : OFF_MAP) {
            CHECK.refused("extend to x " + wrong, ShapesTest::lineAndArea, ILLEGAL, s -> s.extend(1, wrong, 1));
            CHECK.refused("extend to y " + wrong, ShapesTest::lineAndArea, ILLEGAL, s -> s.extend(1, 1, wrong));
            CHECK.refused("extend of 9 points to " + wrong, ShapesTest::full, ILLEGAL, s -> s.extend(1, 1, wrong));
        }
        CHECK.refused("a tenth point", ShapesTest::full, FULL, s -> s.extend(1, 1, 1));
    }

    private static void promise4MovePoint() {
        TileServer server = lineAndArea();
        CHECK.same("tiles that leave", server.movePoint(1, 1, 64, 0), 1);
        CHECK.same("moved x", server.xOf(1, 1), 64);
        CHECK.same("moved y", server.yOf(1, 1), 0);
        CHECK.same("the point before a moved one", server.xOf(1, 0), 8);
        CHECK.same("the point behind a moved one", server.xOf(1, 2), 40);
        CHECK.same("points after a move", server.points(1), 3);
        CHECK.same("no tiles left to leave", server.movePoint(1, 2, 0, 64), 0);
        CHECK.same("moved last point", server.yOf(1, 2), 64);
        CHECK.same("the first point moves, too", server.movePoint(1, 0, 33, 34), 0);
        CHECK.same("moved first point", server.xOf(1, 0), 33);
    }

    private static void promise4MovePointRefuses() {
        for (int wrong : NO_NUMBERS) {
            CHECK.refused("movePoint of " + wrong, ShapesTest::lineAndArea, NO_SHAPE, s -> s.movePoint(wrong, -1, -1, 1));
        }
        CHECK.refused("movePoint of an area", ShapesTest::lineAndArea, OTHER_KIND, s -> s.movePoint(2, -1, -1, 1));
        for (int wrong : NO_POINTS) {
            CHECK.refused("movePoint at " + wrong, ShapesTest::lineAndArea, NO_INDEX, s -> s.movePoint(1, wrong, 65, 1));
        }
        for (int wrong : OFF_MAP) {
            CHECK.refused("movePoint to x " + wrong, ShapesTest::lineAndArea, ILLEGAL, s -> s.movePoint(1, 2, wrong, 1));
            CHECK.refused("movePoint to y " + wrong, ShapesTest::lineAndArea, ILLEGAL, s -> s.movePoint(1, 0, 1, wrong));
        }
    }

    private static void promise5DropPoint() {
        TileServer server = full();
        CHECK.same("drop in the middle", server.dropPoint(1, 4), 8);
        CHECK.same("the point before the dropped one", server.xOf(1, 3), 4);
        CHECK.same("the point behind the dropped one", server.xOf(1, 4), 6);
        CHECK.same("drop of the last one", server.dropPoint(1, 7), 7);
        CHECK.same("the last point now", server.yOf(1, 6), 8);
        CHECK.same("drop of the first one", server.dropPoint(1, 0), 6);
        CHECK.same("the first point now", server.yOf(1, 0), 64);
        for (int i = 5; i >= 2; i--) {
            CHECK.same("drop down to 2 points", server.dropPoint(1, 1), i);
        }
        CHECK.same("what is left in the end", server.xOf(1, 1), 8);
        CHECK.same("a point for a dropped one", server.extend(1, 1, 2), 3);
    }

    private static void promise5DropPointRefuses() {
        for (int wrong : NO_NUMBERS) {
            CHECK.refused("dropPoint of " + wrong, ShapesTest::lineAndArea, NO_SHAPE, s -> s.dropPoint(wrong, -1));
        }
        CHECK.refused("dropPoint of an area", ShapesTest::lineAndArea, OTHER_KIND, s -> s.dropPoint(2, -1));
        for (int wrong : NO_POINTS) {
            CHECK.refused("dropPoint at " + wrong, ShapesTest::lineAndArea, NO_INDEX, s -> s.dropPoint(1, wrong));
            CHECK.refused("dropPoint of 2 at " + wrong, ShapesTest::twoPoints, NO_INDEX, s -> s.dropPoint(1, wrong));
        }
        CHECK.refused("dropPoint of 2 at 2", ShapesTest::twoPoints, NO_INDEX, s -> s.dropPoint(1, 2));
        CHECK.refused("dropPoint of 2 at 0", ShapesTest::twoPoints, FULL, s -> s.dropPoint(1, 0));
        CHECK.refused("dropPoint of 2 at 1", ShapesTest::twoPoints, FULL, s -> s.dropPoint(1, 1));
    }

    private static TileServer twoPoints() {
        TileServer server = new TileServer();
        server.addLine(1, 2, 3, 4);
        server.cellAt(3, 0, 0, 0, 0);
        return server;
    }

    private static void promise6AddArea() {
        TileServer server = new TileServer();
        CHECK.same("the least area", server.addArea(0, 64, 1, 1), 1);
        CHECK.same("the greatest area", server.addArea(64, 0, 20, 40), 2);
        CHECK.same("an area between", server.addArea(32, 32, 20, 20), 3);
        CHECK.same("the least area's quarters", server.areaIn(1, 0, 0, 0), 2);
        CHECK.same("the greatest area's quarters", server.areaIn(2, 0, 0, 0), 1600);
        CHECK.same("the other area's quarters", server.areaIn(3, 0, 0, 0), 3200);
        server.remove(1);
        CHECK.same("numbers go on", server.addArea(5, 6, 2, 3), 4);
        CHECK.same("lines and areas share them", server.addLine(5, 6, 2, 3), 5);
        CHECK.same("an area shows", server.cellByDrawing(3, 0, 7, 0, 0), 0);
        CHECK.same("an area shows", server.cellByDrawing(0, 0, 0, 4, 4), 3);
    }

    private static void promise6AddAreaRefuses() {
        for (Supplier<TileServer> recipe : List.<Supplier<TileServer>>of(ShapesTest::lineAndArea, ShapesTest::full)) {
            for (int wrong : OFF_MAP) {
                CHECK.refused("addArea at x " + wrong, recipe, ILLEGAL, s -> s.addArea(wrong, 1, 2, 3));
                CHECK.refused("addArea at y " + wrong, recipe, ILLEGAL, s -> s.addArea(1, wrong, 2, 3));
            }
            for (int wrong : new int[] {0, 21, -1, Integer.MIN_VALUE, Integer.MAX_VALUE}) {
                CHECK.refused("addArea of reach " + wrong, recipe, ILLEGAL, s -> s.addArea(1, 1, wrong, wrong));
                CHECK.refused("addArea of reach " + wrong, recipe, ILLEGAL, s -> s.addArea(1, 1, wrong, 20));
            }
            for (int wrong : new int[] {4, 11, 0, -5, Integer.MIN_VALUE, Integer.MAX_VALUE}) {
                CHECK.refused("addArea of cut " + wrong, recipe, ILLEGAL, s -> s.addArea(1, 1, 5, wrong));
            }
        }
        CHECK.refused("a 13th area", ShapesTest::full, FULL, s -> s.addArea(1, 1, 5, 5));
        CHECK.taken("the least cut", ShapesTest::lineAndArea, s -> s.addArea(1, 1, 5, 5));
        CHECK.taken("the greatest cut", ShapesTest::lineAndArea, s -> s.addArea(1, 1, 5, 10));
    }

    private static void promise7MoveArea() {
        TileServer server = lineAndArea();
        CHECK.same("whole area", server.areaIn(2, 0, 0, 0), 4 * 100 - 4 * 2 * 2 * 2);
        CHECK.same("tiles that leave", server.moveArea(2, 32, -32), 1);
        CHECK.same("area moved into a corner", server.areaIn(2, 0, 0, 0), 100 - 4 * 2);
        CHECK.same("its cell", server.cellByDrawing(0, 0, 0, 7, 0), 2);
        CHECK.same("its cell before", server.cellByDrawing(0, 0, 0, 4, 4), 0);
        CHECK.same("no tile left to leave", server.moveArea(2, -64, 64), 0);
        CHECK.same("area moved into the other corner", server.cellByDrawing(0, 0, 0, 0, 7), 2);
        CHECK.same("a step along one coordinate", server.moveArea(2, 1, 0), 0);
        CHECK.same("its first tile at level 3", server.areaIn(2, 3, 0, 7), 5 * 6 * 4 - 4 - 4);
    }

    private static void promise7MoveAreaRefuses() {
        for (int wrong : NO_NUMBERS) {
            CHECK.refused("moveArea of " + wrong, ShapesTest::lineAndArea, NO_SHAPE, s -> s.moveArea(wrong, 99, 99));
        }
        CHECK.refused("moveArea of a line", ShapesTest::lineAndArea, OTHER_KIND, s -> s.moveArea(1, 99, 99));
        for (int wrong : new int[] {33, -33, Integer.MAX_VALUE, Integer.MIN_VALUE, Integer.MAX_VALUE - 31}) {
            CHECK.refused("moveArea by x " + wrong, ShapesTest::lineAndArea, ILLEGAL, s -> s.moveArea(2, wrong, 0));
            CHECK.refused("moveArea by y " + wrong, ShapesTest::lineAndArea, ILLEGAL, s -> s.moveArea(2, 0, wrong));
        }
    }

    private static void promise8Remove() {
        TileServer server = lineAndArea();
        CHECK.same("remove", server.remove(1), 1);
        CHECK.same("the other shape stays", server.kindOf(2), 'a');
        CHECK.same("its tile leaves", server.cached(), 0);
        CHECK.same("remove of the last one", server.remove(2), 0);
        CHECK.same("nothing is drawn", server.cellByDrawing(0, 0, 0, 4, 4), 0);
        for (int wrong : NO_NUMBERS) {
            CHECK.refused("remove of " + wrong, ShapesTest::lineAndArea, NO_SHAPE, s -> s.remove(wrong));
        }
        CHECK.refused("remove of what was taken away", ShapesTest::onlyTheArea, NO_SHAPE, s -> s.remove(1));
        CHECK.refused("kindOf what was taken away", ShapesTest::onlyTheArea, NO_SHAPE, s -> s.kindOf(1));
    }

    private static TileServer onlyTheArea() {
        TileServer server = lineAndArea();
        server.remove(1);
        return server;
    }

    private static void promise9SetLabel() {
        TileServer server = lineAndArea();
        CHECK.same("the first label", server.setLabel(1, 8, 9), 0);
        CHECK.same("one in its place", server.setLabel(1, 1, 1), 8);
        CHECK.same("the label of an area", server.setLabel(2, 3, 5), 0);
        CHECK.same("no label", server.setLabel(1, 0, 4), 1);
        CHECK.same("a label after none", server.setLabel(1, 2, 2), 0);
        CHECK.same("the other label stays", server.setLabel(2, 3, 5), 3);
        CHECK.same("tiles stay", server.cached(), 1);
        CHECK.same("labels shown", server.shownLabels(3), 2);
    }

    private static void promise9SetLabelRefuses() {
        for (int wrong : NO_NUMBERS) {
            CHECK.refused("setLabel of " + wrong, ShapesTest::lineAndArea, NO_SHAPE, s -> s.setLabel(wrong, 9, 0));
        }
        for (int wrong : new int[] {-1, 9, Integer.MIN_VALUE, Integer.MAX_VALUE}) {
            CHECK.refused("setLabel of width " + wrong, ShapesTest::labelled, ILLEGAL, s -> s.setLabel(1, wrong, 1));
        }
        for (int wrong : new int[] {-1, 0, 10, Integer.MIN_VALUE, Integer.MAX_VALUE}) {
            CHECK.refused("setLabel of rank " + wrong, ShapesTest::labelled, ILLEGAL, s -> s.setLabel(1, 1, wrong));
            CHECK.refused("no label of rank " + wrong, ShapesTest::labelled, ILLEGAL, s -> s.setLabel(2, 0, wrong));
        }
    }

    private static TileServer labelled() {
        TileServer server = lineAndArea();
        server.setLabel(1, 3, 4);
        server.setLabel(2, 5, 4);
        return server;
    }

    private static void promise12Clock() {
        TileServer server = lineAndArea();
        CHECK.same("clock at first", server.clock(), 0);
        server.pass(1);
        server.pass(99);
        CHECK.same("clock after 100 ticks", server.clock(), 100);
        server.remove(1);
        CHECK.same("clock after a change", server.clock(), 100);
    }

    private static void promises13And14ShapesAndKinds() {
        TileServer server = lineAndArea();
        CHECK.same("shapes", server.shapes(), 2);
        CHECK.same("kind of a line", server.kindOf(1), 'l');
        CHECK.same("kind of an area", server.kindOf(2), 'a');
        CHECK.same("shapes at most", full().shapes(), 12);
        for (int wrong : NO_NUMBERS) {
            CHECK.refused("kindOf " + wrong, ShapesTest::lineAndArea, NO_SHAPE, s -> s.kindOf(wrong));
        }
    }

    private static void promises15To17Points() {
        TileServer server = lineAndArea();
        CHECK.same("points", server.points(1), 3);
        CHECK.same("x of the second point", server.xOf(1, 1), 16);
        CHECK.same("y of the second point", server.yOf(1, 1), 24);
        CHECK.same("x of the last point", server.xOf(1, 2), 40);
        CHECK.same("y of the last point", server.yOf(1, 2), 8);
        for (int wrong : NO_NUMBERS) {
            CHECK.refused("points of " + wrong, ShapesTest::lineAndArea, NO_SHAPE, s -> s.points(wrong));
            CHECK.refused("xOf " + wrong, ShapesTest::lineAndArea, NO_SHAPE, s -> s.xOf(wrong, -1));
            CHECK.refused("yOf " + wrong, ShapesTest::lineAndArea, NO_SHAPE, s -> s.yOf(wrong, -1));
        }
        CHECK.refused("points of an area", ShapesTest::lineAndArea, OTHER_KIND, s -> s.points(2));
        CHECK.refused("xOf an area", ShapesTest::lineAndArea, OTHER_KIND, s -> s.xOf(2, -1));
        CHECK.refused("yOf an area", ShapesTest::lineAndArea, OTHER_KIND, s -> s.yOf(2, -1));
        for (int wrong : NO_POINTS) {
            CHECK.refused("xOf at " + wrong, ShapesTest::lineAndArea, NO_INDEX, s -> s.xOf(1, wrong));
            CHECK.refused("yOf at " + wrong, ShapesTest::lineAndArea, NO_INDEX, s -> s.yOf(1, wrong));
        }
    }
}
