import java.util.ArrayList;
import java.util.Iterator;
import java.util.LinkedHashMap;
import java.util.List;
import java.util.NoSuchElementException;
import java.util.TreeMap;
import java.util.TreeSet;

/**
 * The document told once more, by other means than in TileServer, as slow and plain as can be: segments are tested
 * against the four sides of a rectangle, areas are measured by the lengths of their rows, labels stand in doubles.
 */
public final class PlainServer {
    private static final class Shape {
        final List<int[]> points = new ArrayList<>();
        boolean line;
        int reach;
        int cut;
        int width;
        int rank;

        int least(int axis) {
            return points.stream().mapToInt(p -> p[axis]).min().orElseThrow() - reach;
        }

        int greatest(int axis) {
            return points.stream().mapToInt(p -> p[axis]).max().orElseThrow() + reach;
        }
    }

    private record Address(int level, int column, int row) {
        int side() {
            return 64 / (1 << level);
        }

        int left() {
            return column * side();
        }

        int low() {
            return row * side();
        }
    }

    private record Picture(int drawnAt, int[][] cells) {
    }

    private record Place(char name, double left, double low, double right, double high) {
    }

    private final TreeMap<Integer, Shape> map = new TreeMap<>();
    /** In the order in which the tiles were asked for. */
    private final LinkedHashMap<Address, Picture> cache = new LinkedHashMap<>();
    private final int[] tolerances = {4, 2, 1, 0};
    private int made;
    private int now;
    private int hits;
    private int missed;
    private long showing;

    public int addLine(int x1, int y1, int x2, int y2) {
        needMap(x1, y1);
        needMap(x2, y2);
        Shape shape = new Shape();
        shape.line = true;
        shape.points.add(new int[] {x1, y1});
        shape.points.add(new int[] {x2, y2});
        return put(shape);
    }

    public int extend(int line, int x, int y) {
        Shape found = line(line);
        needMap(x, y);
        need(found.points.size() < 9, new IllegalStateException());
        leave(found);
        found.points.add(new int[] {x, y});
        leave(found);
        return found.points.size();
    }

    public int movePoint(int line, int index, int x, int y) {
        Shape found = point(line, index);
        needMap(x, y);
        int before = cache.size();
        leave(found);
        found.points.set(index, new int[] {x, y});
        leave(found);
        return before - cache.size();
    }

    public int dropPoint(int line, int index) {
        Shape found = point(line, index);
        need(found.points.size() > 2, new IllegalStateException());
        leave(found);
        found.points.remove(index);
        leave(found);
        return found.points.size();
    }

    public int addArea(int x, int y, int reach, int cut) {
        needMap(x, y);
        need(reach >= 1 && reach <= 20 && cut >= reach && cut <= 2 * reach, new IllegalArgumentException());
        Shape shape = new Shape();
        shape.points.add(new int[] {x, y});
        shape.reach = reach;
        shape.cut = cut;
        return put(shape);
    }

    public int moveArea(int area, int dx, int dy) {
        Shape found = area(area);
        long x = (long) found.points.get(0)[0] + dx;
        long y = (long) found.points.get(0)[1] + dy;
        needMap(x, y);
        int before = cache.size();
        leave(found);
        found.points.set(0, new int[] {(int) x, (int) y});
        leave(found);
        return before - cache.size();
    }

    public int remove(int shape) {
        leave(shape(shape));
        map.remove(shape);
        return map.size();
    }

    public int setLabel(int shape, int width, int rank) {
        Shape found = shape(shape);
        need(width >= 0 && width <= 8 && rank >= 1 && rank <= 9, new IllegalArgumentException());
        int before = found.width;
        found.width = width;
        found.rank = rank;
        return before;
    }

    public int setTolerance(int level, int tolerance) {
        needLevel(level);
        need(tolerance >= 0 && tolerance <= 9, new IllegalArgumentException());
        int before = tolerances[level];
        tolerances[level] = tolerance;
        cache.keySet().removeIf(tile -> tile.level == level);
        return before;
    }

    public int pass(int ticks) {
        need(ticks >= 1 && ticks <= 99, new IllegalArgumentException());
        now += ticks;
        int before = cache.size();
        cache.values().removeIf(picture -> now - picture.drawnAt >= 20);
        return before - cache.size();
    }

    public int clock() {
        return now;
    }

    public int shapes() {
        return map.size();
    }

    public char kindOf(int shape) {
        return shape(shape).line ? 'l' : 'a';
    }

    public int points(int line) {
        return line(line).points.size();
    }

    public int xOf(int line, int index) {
        return point(line, index).points.get(index)[0];
    }

    public int yOf(int line, int index) {
        return point(line, index).points.get(index)[1];
    }

    public boolean isKept(int line, int level, int index) {
        Shape found = point(line, index);
        needLevel(level);
        return kept(found, level).contains(index);
    }

    public boolean isKeptByMarks(int line, int level, int index) {
        return isKept(line, level, index);
    }

    public int keptPoints(int line, int level) {
        Shape found = line(line);
        needLevel(level);
        return kept(found, level).size();
    }

    public int cellAt(int level, int column, int row, int x, int y) {
        Address tile = tile(level, column, row);
        needCell(x, y);
        Picture picture = cache.remove(tile);
        if (picture == null) {
            missed++;
            picture = new Picture(now, draw(tile));
            if (cache.size() == 5) {
                Iterator<Address> oldest = cache.keySet().iterator();
                oldest.next();
                oldest.remove();
            }
        } else {
            hits++;
        }
        cache.put(tile, picture);
        return picture.cells[x][y];
    }

    public int cellByDrawing(int level, int column, int row, int x, int y) {
        Address tile = tile(level, column, row);
        needCell(x, y);
        return cell(tile, x, y);
    }

    public boolean isCached(int level, int column, int row) {
        return cache.containsKey(tile(level, column, row));
    }

    public int ageOf(int level, int column, int row) {
        Picture picture = cache.get(tile(level, column, row));
        need(picture != null, new NoSuchElementException());
        return now - picture.drawnAt;
    }

    public int cached() {
        return cache.size();
    }

    public int misses() {
        return missed;
    }

    public float hitShare() {
        need(hits + missed > 0, new ArithmeticException());
        return (float) hits / (float) (hits + missed);
    }

    public int areaIn(int area, int level, int column, int row) {
        Shape found = area(area);
        Address tile = tile(level, column, row);
        return fourSizes(found, tile.left(), tile.low(), tile.side());
    }

    public int areaByQuarters(int area, int level, int column, int row) {
        return areaIn(area, level, column, row);
    }

    public int crossesRight(int line, int level, int column, int row) {
        Shape found = line(line);
        Address tile = tile(level, column, row);
        return crossed(found, tile, tile.left() + tile.side());
    }

    public int crossesLeft(int line, int level, int column, int row) {
        Shape found = line(line);
        Address tile = tile(level, column, row);
        return crossed(found, tile, tile.left());
    }

    public int segmentsIn(int level, int column, int row) {
        Address tile = tile(level, column, row);
        int right = tile.left() + tile.side();
        int high = tile.low() + tile.side();
        int count = 0;
        for (Shape shape : map.values()) {
            for (int[] segment : segments(shape, level)) {
                count += meets(segment, tile.left(), tile.low(), right, high) ? 1 : 0;
            }
        }
        return count;
    }

    public char placeOf(int shape, int level) {
        Place place = place(shape, level);
        return place == null ? '-' : place.name;
    }

    public int labelLeft(int shape, int level) {
        Place place = place(shape, level);
        return place == null ? -1 : (int) (2 * place.left);
    }

    public int labelLow(int shape, int level) {
        Place place = place(shape, level);
        return place == null ? -1 : (int) (2 * place.low);
    }

    public int shownLabels(int level) {
        needLevel(level);
        return places(level).size();
    }

    public long drawn() {
        return showing;
    }

    public double meanKept(int level) {
        needLevel(level);
        double lines = map.values().stream().filter(shape -> shape.line).count();
        need(lines > 0, new ArithmeticException());
        double sum = map.values().stream().filter(shape -> shape.line).mapToInt(shape -> kept(shape, level).size()).sum();
        return sum / lines;
    }

    public boolean isFresh() {
        for (Address tile : cache.keySet()) {
            for (int x = 0; x < 8; x++) {
                for (int y = 0; y < 8; y++) {
                    if (cache.get(tile).cells[x][y] != cell(tile, x, y)) {
                        return false;
                    }
                }
            }
        }
        return true;
    }

    private static void need(boolean holds, RuntimeException otherwise) {
        if (!holds) {
            throw otherwise;
        }
    }

    private static void needMap(long x, long y) {
        need(x >= 0 && x <= 64 && y >= 0 && y <= 64, new IllegalArgumentException());
    }

    private static void needLevel(int level) {
        need(level >= 0 && level <= 3, new IndexOutOfBoundsException());
    }

    private static void needCell(int x, int y) {
        need(x >= 0 && x <= 7 && y >= 0 && y <= 7, new IndexOutOfBoundsException());
    }

    private static Address tile(int level, int column, int row) {
        needLevel(level);
        int tiles = new int[] {1, 2, 4, 8}[level];
        need(column >= 0 && column < tiles && row >= 0 && row < tiles, new IndexOutOfBoundsException());
        return new Address(level, column, row);
    }

    private Shape shape(int number) {
        need(map.containsKey(number), new NoSuchElementException());
        return map.get(number);
    }

    private Shape line(int number) {
        need(shape(number).line, new UnsupportedOperationException());
        return shape(number);
    }

    private Shape area(int number) {
        need(!shape(number).line, new UnsupportedOperationException());
        return shape(number);
    }

    private Shape point(int number, int index) {
        Shape line = line(number);
        need(index >= 0 && index < line.points.size(), new IndexOutOfBoundsException());
        return line;
    }

    private int put(Shape shape) {
        need(map.size() < 12, new IllegalStateException());
        made++;
        map.put(made, shape);
        leave(shape);
        return made;
    }

    private void leave(Shape shape) {
        cache.keySet().removeIf(tile -> tile.left() <= shape.greatest(0) && tile.left() + tile.side() >= shape.least(0)
            && tile.low() <= shape.greatest(1) && tile.low() + tile.side() >= shape.least(1));
    }

    private TreeSet<Integer> kept(Shape line, int level) {
        TreeSet<Integer> kept = new TreeSet<>(List.of(0, line.points.size() - 1));
        for (int from = 0; from < line.points.size() - 1;) {
            int to = kept.higher(from);
            int best = from;
            for (int i = from + 1; i < to; i++) {
                if (apart(line, from, to, i) > apart(line, from, to, best)) {
                    best = i;
                }
            }
            int tolerance = tolerances[level];
            if (best > from && apart(line, from, to, best) > (long) tolerance * tolerance * over(line, from, to)) {
                kept.add(best);
            } else {
                from = to;
            }
        }
        return kept;
    }

    /** The square of a point's distance, times what over() tells. */
    private static long apart(Shape line, int from, int to, int index) {
        int[] a = line.points.get(from);
        int[] b = line.points.get(to);
        int[] p = line.points.get(index);
        if (a[0] == b[0] && a[1] == b[1]) {
            return (long) (p[0] - a[0]) * (p[0] - a[0]) + (long) (p[1] - a[1]) * (p[1] - a[1]);
        }
        long turn = turn(a[0], a[1], b[0], b[1], p[0], p[1]);
        return turn * turn;
    }

    private static long over(Shape line, int from, int to) {
        int[] a = line.points.get(from);
        int[] b = line.points.get(to);
        long square = (long) (b[0] - a[0]) * (b[0] - a[0]) + (long) (b[1] - a[1]) * (b[1] - a[1]);
        return square == 0 ? 1 : square;
    }

    private static long turn(int ax, int ay, int bx, int by, int px, int py) {
        return (long) (bx - ax) * (py - ay) - (long) (by - ay) * (px - ax);
    }

    private List<int[]> segments(Shape shape, int level) {
        List<int[]> segments = new ArrayList<>();
        if (shape.line) {
            int[] before = null;
            for (int index : kept(shape, level)) {
                int[] point = shape.points.get(index);
                if (before != null) {
                    segments.add(new int[] {before[0], before[1], point[0], point[1]});
                }
                before = point;
            }
        }
        return segments;
    }

    /** An end lies in the rectangle, or one of the four sides is met. */
    private static boolean meets(int[] s, int left, int low, int right, int high) {
        return s[0] >= left && s[0] <= right && s[1] >= low && s[1] <= high
            || s[2] >= left && s[2] <= right && s[3] >= low && s[3] <= high
            || touch(s, left, low, right, low) || touch(s, left, high, right, high)
            || touch(s, left, low, left, high) || touch(s, right, low, right, high);
    }

    private static boolean touch(int[] s, int ax, int ay, int bx, int by) {
        int endA = Long.signum(turn(s[0], s[1], s[2], s[3], ax, ay));
        int endB = Long.signum(turn(s[0], s[1], s[2], s[3], bx, by));
        int endS = Long.signum(turn(ax, ay, bx, by, s[0], s[1]));
        int endT = Long.signum(turn(ax, ay, bx, by, s[2], s[3]));
        return endA * endB < 0 && endS * endT < 0
            || endA == 0 && between(s[0], s[1], s[2], s[3], ax, ay)
            || endB == 0 && between(s[0], s[1], s[2], s[3], bx, by)
            || endS == 0 && between(ax, ay, bx, by, s[0], s[1])
            || endT == 0 && between(ax, ay, bx, by, s[2], s[3]);
    }

    private static boolean between(int ax, int ay, int bx, int by, int px, int py) {
        return Math.min(ax, bx) <= px && px <= Math.max(ax, bx) && Math.min(ay, by) <= py && py <= Math.max(ay, by);
    }

    private int crossed(Shape line, Address tile, int x) {
        int count = 0;
        for (int i = 0; i < 8; i++) {
            int low = tile.low() + i * tile.side() / 8;
            int high = low + tile.side() / 8;
            count += segments(line, tile.level).stream().anyMatch(s -> meets(s, x, low, x, high)) ? 1 : 0;
        }
        return count;
    }

    private int[][] draw(Address tile) {
        int[][] cells = new int[8][8];
        for (int x = 0; x < 8; x++) {
            for (int y = 0; y < 8; y++) {
                cells[x][y] = cell(tile, x, y);
                showing += cells[x][y] == 0 ? 0 : 1;
            }
        }
        return cells;
    }

    private int cell(Address tile, int x, int y) {
        int side = tile.side() / 8;
        int left = tile.left() + x * side;
        int low = tile.low() + y * side;
        int shown = 0;
        for (int number : map.keySet()) {
            Shape shape = map.get(number);
            boolean shows = shape.line
                ? segments(shape, tile.level).stream().anyMatch(s -> meets(s, left, low, left + side, low + side))
                : fourSizes(shape, left, low, side) > 0;
            shown = shows ? number : shown;
        }
        return shown;
    }

    /** Four times the size of an area in a square: between whole coordinates, the length of its rows is linear. */
    private static int fourSizes(Shape area, int left, int low, int side) {
        int from = Math.max(low, area.least(1));
        int to = Math.min(low + side, area.greatest(1));
        int sum = 0;
        for (int y = from; y < to; y++) {
            sum += 2 * (rowLength(area, left, side, y) + rowLength(area, left, side, y + 1));
        }
        return sum;
    }

    private static int rowLength(Shape area, int left, int side, int y) {
        int[] centre = area.points.get(0);
        int half = Math.min(area.reach, area.cut - Math.abs(y - centre[1]));
        return Math.max(0, Math.min(left + side, centre[0] + half) - Math.max(left, centre[0] - half));
    }

    private Place place(int number, int level) {
        need(shape(number).width > 0, new IllegalStateException());
        needLevel(level);
        return places(level).get(number);
    }

    private TreeMap<Integer, Place> places(int level) {
        TreeMap<Integer, Place> put = new TreeMap<>();
        List<Integer> order = new ArrayList<>(map.keySet());
        order.removeIf(number -> map.get(number).width == 0);
        order.sort((a, b) -> Integer.compare(map.get(b).rank, map.get(a).rank));
        for (int number : order) {
            for (Place place : fourPlaces(map.get(number), level)) {
                boolean inside = place.left >= 0 && place.low >= 0 && place.right <= 64 && place.high <= 64;
                if (inside && put.values().stream().noneMatch(other -> overlap(place, other))) {
                    put.put(number, place);
                    break;
                }
            }
        }
        return put;
    }

    private static List<Place> fourPlaces(Shape shape, int level) {
        double x = (shape.least(0) + shape.greatest(0)) / 2.0;
        double y = (shape.least(1) + shape.greatest(1)) / 2.0;
        double high = new double[] {8, 4, 2, 1}[level];
        double wide = shape.width * high;
        return List.of(
            new Place('r', x, y - high / 2, x + wide, y + high / 2),
            new Place('l', x - wide, y - high / 2, x, y + high / 2),
            new Place('a', x - wide / 2, y, x + wide / 2, y + high),
            new Place('b', x - wide / 2, y - high, x + wide / 2, y));
    }

    private static boolean overlap(Place a, Place b) {
        return Math.min(a.right, b.right) > Math.max(a.left, b.left) && Math.min(a.high, b.high) > Math.max(a.low, b.low);
    }
}
