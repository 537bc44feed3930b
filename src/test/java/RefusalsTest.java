import java.util.ArrayList;
import java.util.List;
import java.util.NoSuchElementException;
import java.util.function.Supplier;

/**
 * Calls with each combination of right and wrong numbers: of the exceptions that apply, the one that the document
 * lists first is thrown, and nothing changes; where none applies, nothing is thrown.
 */
public final class RefusalsTest {
    private static final Class<?> ILLEGAL = IllegalArgumentException.class;
    private static final Class<?> STATE = IllegalStateException.class;
    private static final Class<?> NO_SHAPE = NoSuchElementException.class;
    private static final Class<?> NO_TILE = NoSuchElementException.class;
    private static final Class<?> OTHER_KIND = UnsupportedOperationException.class;
    private static final Class<?> NO_INDEX = IndexOutOfBoundsException.class;
    private static final Class<?> DIVISION = ArithmeticException.class;
    private static final int LOW = Integer.MIN_VALUE;
    private static final int HIGH = Integer.MAX_VALUE;

    /** A number for an argument, and what is thrown for it; null for a right one. */
    private record Choice(int number, Class<?> due) {
    }

    private interface Call {
        void on(TileServer server, int[] numbers);
    }

    private static final List<Choice> NUMBER_OF_NONE = wrong(NO_SHAPE, 0, -1, 3, 5, LOW, HIGH);
    private static final List<Choice> SHAPE = with(NUMBER_OF_NONE, right(1, 2));
    private static final List<Choice> LINE = with(NUMBER_OF_NONE, right(1), wrong(OTHER_KIND, 2));
    private static final List<Choice> AREA = with(NUMBER_OF_NONE, right(2), wrong(OTHER_KIND, 1));
    private static final List<Choice> COORDINATE = with(right(0, 64), wrong(ILLEGAL, -1, 65, LOW, HIGH));
    private static final List<Choice> LEVEL_3 = with(right(3), wrong(NO_INDEX, -1, 4, LOW, HIGH));
    private static final List<Choice> OF_8 = with(right(0, 7), wrong(NO_INDEX, -1, 8, LOW, HIGH));
    private static final List<Choice> POINT_OF_2 = with(right(0, 1), wrong(NO_INDEX, -1, 2, LOW, HIGH));
    private static final List<Choice> POINT_OF_4 = with(right(0, 3), wrong(NO_INDEX, -1, 4, LOW, HIGH));
    private static final List<Choice> POINT_OF_9 = with(right(0, 8), wrong(NO_INDEX, -1, 9, LOW, HIGH));
    private static final List<Choice> REACH_FOR_CUT_20 = with(right(10, 20), wrong(ILLEGAL, 0, 9, 21, LOW, HIGH));
    private static final List<Choice> CUT_20 = with(right(20), wrong(ILLEGAL, -1, 41, LOW, HIGH));
    private static final List<Choice> BY_FROM_32 = with(right(-32, 0, 32), wrong(ILLEGAL, -33, 33, LOW, HIGH));
    private static final List<Choice> WIDTH = with(right(0, 8), wrong(ILLEGAL, -1, 9, LOW, HIGH));
    private static final List<Choice> RANK = with(right(1, 9), wrong(ILLEGAL, 0, 10, LOW, HIGH));
    private static final List<Choice> TOLERANCE = with(right(0, 9), wrong(ILLEGAL, -1, 10, LOW, HIGH));

    private static final Check CHECK = new Check();

    public static void main(String[] args) {
        promise2AddLine();
        promise3Extend();
        promise4MovePoint();
        promise5DropPoint();
        promise6AddArea();
        promise7MoveArea();
        promise9SetLabel();
        promise10SetTolerance();
        promises16And17Points();
        promises18To20Kept();
        promises21And22Cells();
        promises23And24Tiles();
        promise27HitShare();
        promises28And29Areas();
        promises30And31Lines();
        promise32SegmentsIn();
        promises33To35Labels();
        promise38MeanKept();
        CHECK.end();
    }

    private static List<Choice> right(int... numbers) {
        return wrong(null, numbers);
    }

    private static List<Choice> wrong(Class<?> due, int... numbers) {
        List<Choice> choices = new ArrayList<>();
        for (int number : numbers) {
            choices.add(new Choice(number, due));
        }
        return choices;
    }

    @SafeVarargs
    private static List<Choice> with(List<Choice>... parts) {
        List<Choice> choices = new ArrayList<>();
        for (List<Choice> part : parts) {
            choices.addAll(part);
        }
        return choices;
    }

    /** Stands in the place of an argument that the call does not have: what is thrown for no number's sake. */
    private static List<Choice> always(Class<?> due) {
        return wrong(due, 0);
    }

    /** Tries each combination of the choices; the exceptions are given in the order in which they are listed. */
    @SafeVarargs
    private static void every(String name, Supplier<TileServer> recipe, List<Class<?>> listed, Call call, List<Choice>... choices) {
        String before = Check.allOf(recipe.get());
        int combinations = 1;
        for (List<Choice> each : choices) {
            combinations *= each.size();
        }
        for (int i = 0; i < combinations; i++) {
            int[] numbers = new int[choices.length];
            int first = listed.size();
            int rest = i;
            for (int j = 0; j < choices.length; j++) {
                Choice choice = choices[j].get(rest % choices[j].size());
                rest /= choices[j].size();
                numbers[j] = choice.number;
                first = choice.due == null ? first : Math.min(first, listed.indexOf(choice.due));
            }
            one(name, recipe.get(), first == listed.size() ? null : listed.get(first), call, numbers, before);
        }
    }

    private static void one(String name, TileServer server, Class<?> due, Call call, int[] numbers, String before) {
        StringBuilder what = new StringBuilder(name);
        for (int number : numbers) {
            what.append(' ').append(number);
        }
        CHECK.same(what.toString(), Check.answer(server, s -> call.on(s, numbers)), due == null ? "nothing thrown" : due.getName());
        if (due != null) {
            CHECK.same("what stands after " + what, Check.allOf(server), before);
        }
    }

    private static void promise2AddLine() {
        List<Class<?>> listed = List.of(ILLEGAL, STATE);
        Call call = (s, n) -> s.addLine(n[0], n[1], n[2], n[3]);
        every("addLine", Recipes::mixed, listed, call, COORDINATE, COORDINATE, COORDINATE, COORDINATE);
        every("addLine to 12", Recipes::full, listed, call, COORDINATE, COORDINATE, COORDINATE, COORDINATE, always(STATE));
    }

    private static void promise3Extend() {
        List<Class<?>> listed = List.of(NO_SHAPE, OTHER_KIND, ILLEGAL, STATE);
        Call call = (s, n) -> s.extend(n[0], n[1], n[2]);
        every("extend", Recipes::mixed, listed, call, LINE, COORDINATE, COORDINATE);
        List<Choice> fullLine = with(wrong(STATE, 1), wrong(OTHER_KIND, 2, 12), wrong(NO_SHAPE, 0, 13, LOW, HIGH));
        every("extend of 9 points", Recipes::full, listed, call, fullLine, COORDINATE, COORDINATE);
    }

    private static void promise4MovePoint() {
        List<Class<?>> listed = List.of(NO_SHAPE, OTHER_KIND, NO_INDEX, ILLEGAL);
        Call call = (s, n) -> s.movePoint(n[0], n[1], n[2], n[3]);
        every("movePoint", Recipes::mixed, listed, call, LINE, POINT_OF_4, COORDINATE, COORDINATE);
        every("movePoint of 2", Recipes::plain, listed, call, LINE, POINT_OF_2, COORDINATE, COORDINATE);
        List<Choice> fullLine = with(right(1), wrong(OTHER_KIND, 2, 12), wrong(NO_SHAPE, 0, 13));
        every("movePoint of 9", Recipes::full, listed, call, fullLine, POINT_OF_9, COORDINATE, COORDINATE);
    }

    private static void promise5DropPoint() {
        List<Class<?>> listed = List.of(NO_SHAPE, OTHER_KIND, NO_INDEX, STATE);
        Call call = (s, n) -> s.dropPoint(n[0], n[1]);
        every("dropPoint", Recipes::mixed, listed, call, LINE, POINT_OF_4);
        List<Choice> shortLine = with(NUMBER_OF_NONE, wrong(STATE, 1), wrong(OTHER_KIND, 2));
        every("dropPoint of 2", Recipes::plain, listed, call, shortLine, POINT_OF_2);
    }

    private static void promise6AddArea() {
        List<Class<?>> listed = List.of(ILLEGAL, STATE);
        Call call = (s, n) -> s.addArea(n[0], n[1], n[2], n[3]);
        every("addArea", Recipes::mixed, listed, call, COORDINATE, COORDINATE, REACH_FOR_CUT_20, CUT_20);
        every("addArea to 12", Recipes::full, listed, call, COORDINATE, COORDINATE, REACH_FOR_CUT_20, CUT_20, always(STATE));
    }

    private static void promise7MoveArea() {
        every("moveArea", Recipes::mixed, List.of(NO_SHAPE, OTHER_KIND, ILLEGAL), (s, n) -> s.moveArea(n[0], n[1], n[2]),
            AREA, BY_FROM_32, BY_FROM_32);
    }

    private static void promise9SetLabel() {
        every("setLabel", Recipes::mixed, List.of(NO_SHAPE, ILLEGAL), (s, n) -> s.setLabel(n[0], n[1], n[2]), SHAPE, WIDTH, RANK);
        every("setLabel where none is", Recipes::plain, List.of(NO_SHAPE, ILLEGAL), (s, n) -> s.setLabel(n[0], n[1], n[2]), SHAPE, WIDTH, RANK);
    }

    private static void promise10SetTolerance() {
        every("setTolerance", Recipes::mixed, List.of(NO_INDEX, ILLEGAL), (s, n) -> s.setTolerance(n[0], n[1]), LEVEL_3, TOLERANCE);
    }

    private static void promises16And17Points() {
        List<Class<?>> listed = List.of(NO_SHAPE, OTHER_KIND, NO_INDEX);
        every("xOf", Recipes::mixed, listed, (s, n) -> s.xOf(n[0], n[1]), LINE, POINT_OF_4);
        every("yOf", Recipes::mixed, listed, (s, n) -> s.yOf(n[0], n[1]), LINE, POINT_OF_4);
    }

    private static void promises18To20Kept() {
        List<Class<?>> listed = List.of(NO_SHAPE, OTHER_KIND, NO_INDEX);
        every("isKept", Recipes::mixed, listed, (s, n) -> s.isKept(n[0], n[1], n[2]), LINE, LEVEL_3, POINT_OF_4);
        every("isKeptByMarks", Recipes::mixed, listed, (s, n) -> s.isKeptByMarks(n[0], n[1], n[2]), LINE, LEVEL_3, POINT_OF_4);
        every("keptPoints", Recipes::mixed, listed, (s, n) -> s.keptPoints(n[0], n[1]), LINE, LEVEL_3);
    }

    private static void promises21And22Cells() {
        List<Class<?>> listed = List.of(NO_INDEX);
        every("cellAt", Recipes::mixed, listed, (s, n) -> s.cellAt(n[0], n[1], n[2], n[3], n[4]), LEVEL_3, OF_8, OF_8, OF_8, OF_8);
        every("cellByDrawing", Recipes::mixed, listed, (s, n) -> s.cellByDrawing(n[0], n[1], n[2], n[3], n[4]), LEVEL_3, OF_8, OF_8, OF_8, OF_8);
    }

    private static void promises23And24Tiles() {
        every("isCached", Recipes::mixed, List.of(NO_INDEX), (s, n) -> s.isCached(n[0], n[1], n[2]), LEVEL_3, OF_8, OF_8);
        // The tiles of column 7 and row 7 and of column 0 and row 7 are in the cache.
        List<Choice> row7 = with(right(7), wrong(NO_INDEX, -1, 8, LOW, HIGH));
        List<Choice> row0 = with(wrong(NO_TILE, 0), wrong(NO_INDEX, -1, 8, LOW, HIGH));
        List<Class<?>> listed = List.of(NO_INDEX, NO_TILE);
        every("ageOf", Recipes::mixed, listed, (s, n) -> s.ageOf(n[0], n[1], n[2]), LEVEL_3, OF_8, row7);
        every("ageOf what is not cached", Recipes::mixed, listed, (s, n) -> s.ageOf(n[0], n[1], n[2]), LEVEL_3, OF_8, row0);
    }

    private static void promise27HitShare() {
        every("hitShare", Recipes::mixed, List.of(DIVISION), (s, n) -> s.hitShare());
        every("hitShare of nothing", TileServer::new, List.of(DIVISION), (s, n) -> s.hitShare(), always(DIVISION));
    }

    private static void promises28And29Areas() {
        List<Class<?>> listed = List.of(NO_SHAPE, OTHER_KIND, NO_INDEX);
        every("areaIn", Recipes::mixed, listed, (s, n) -> s.areaIn(n[0], n[1], n[2], n[3]), AREA, LEVEL_3, OF_8, OF_8);
        every("areaByQuarters", Recipes::mixed, listed, (s, n) -> s.areaByQuarters(n[0], n[1], n[2], n[3]), AREA, LEVEL_3, OF_8, OF_8);
    }

    private static void promises30And31Lines() {
        List<Class<?>> listed = List.of(NO_SHAPE, OTHER_KIND, NO_INDEX);
        every("crossesRight", Recipes::mixed, listed, (s, n) -> s.crossesRight(n[0], n[1], n[2], n[3]), LINE, LEVEL_3, OF_8, OF_8);
        every("crossesLeft", Recipes::mixed, listed, (s, n) -> s.crossesLeft(n[0], n[1], n[2], n[3]), LINE, LEVEL_3, OF_8, OF_8);
    }

    private static void promise32SegmentsIn() {
        every("segmentsIn", Recipes::mixed, List.of(NO_INDEX), (s, n) -> s.segmentsIn(n[0], n[1], n[2]), LEVEL_3, OF_8, OF_8);
    }

    private static void promises33To35Labels() {
        List<Class<?>> listed = List.of(NO_SHAPE, STATE, NO_INDEX);
        List<Choice> unlabelled = with(NUMBER_OF_NONE, wrong(STATE, 1, 2));
        every("placeOf", Recipes::mixed, listed, (s, n) -> s.placeOf(n[0], n[1]), SHAPE, LEVEL_3);
        every("labelLeft", Recipes::mixed, listed, (s, n) -> s.labelLeft(n[0], n[1]), SHAPE, LEVEL_3);
        every("labelLow", Recipes::mixed, listed, (s, n) -> s.labelLow(n[0], n[1]), SHAPE, LEVEL_3);
        every("placeOf no label", Recipes::plain, listed, (s, n) -> s.placeOf(n[0], n[1]), unlabelled, LEVEL_3);
        every("labelLeft of no label", Recipes::plain, listed, (s, n) -> s.labelLeft(n[0], n[1]), unlabelled, LEVEL_3);
        every("labelLow of no label", Recipes::plain, listed, (s, n) -> s.labelLow(n[0], n[1]), unlabelled, LEVEL_3);
    }

    private static void promise38MeanKept() {
        List<Class<?>> listed = List.of(NO_INDEX, DIVISION);
        every("meanKept", Recipes::mixed, listed, (s, n) -> s.meanKept(n[0]), LEVEL_3);
        every("meanKept without shapes", TileServer::new, listed, (s, n) -> s.meanKept(n[0]), LEVEL_3, always(DIVISION));
        every("meanKept without lines", () -> Recipes.area(9, 9, 9, 9), listed, (s, n) -> s.meanKept(n[0]), LEVEL_3, always(DIVISION));
    }
}
