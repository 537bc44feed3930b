import java.util.ArrayList;
import java.util.NoSuchElementException;

/** A server of map tiles; DOC.md tells what each method promises. */
public final class TileServer {
    private static final int MAP_SIDE = 64;
    private static final int LEVELS = 4;
    private static final int CELLS = 8;
    private static final int MAX_SHAPES = 12;
    private static final int MIN_POINTS = 2;
    private static final int MAX_POINTS = 9;
    private static final int MAX_REACH = 20;
    private static final int MAX_WIDTH = 8;
    private static final int MAX_RANK = 9;
    private static final int MAX_TOLERANCE = 9;
    private static final int MAX_TICKS = 99;
    private static final int CACHE_SIZE = 5;
    private static final int LIFETIME = 20;
    private static final int NONE = -1;
    private static final char HIDDEN = '-';
    private static final String PLACES = "rlab";

    private final ArrayList<Shape> map;
    private final Tile[] cache;
    private final int[] tolerances;
    private final Outline outline;
    private final Outline spareOutline;
    private int lastNumber;
    private int now;
    private int hits;
    private int missCount;
    private long drawnCells;

    public TileServer() {
        map = new ArrayList<>();
        cache = new Tile[CACHE_SIZE];
        for (int i = 0; i < cache.length; i++) {
            cache[i] = new Tile();
        }
        tolerances = new int[] {4, 2, 1, 0};
        outline = new Outline();
        spareOutline = new Outline();
    }

    // ---- Shapes ----

    public int addLine(int x1, int y1, int x2, int y2) throws IllegalArgumentException, IllegalStateException {
        if (!isOnMap(x1, y1) || !isOnMap(x2, y2)) {
            throw new IllegalArgumentException();
        }
        if (map.size() >= MAX_SHAPES) {
            throw new IllegalStateException();
        }
        Line line = new Line(lastNumber + 1);
        line.append(x1, y1);
        line.append(x2, y2);
        simplify(line);
        return putOnMap(line);
    }

    public int extend(int line, int x, int y) throws NoSuchElementException, UnsupportedOperationException, IllegalArgumentException, IllegalStateException {
        Line found = lineOf(line);
        if (!isOnMap(x, y)) {
            throw new IllegalArgumentException();
        }
        if (found.size >= MAX_POINTS) {
            throw new IllegalStateException();
        }
        dropTilesUnder(found);
        found.append(x, y);
        simplify(found);
        dropTilesUnder(found);
        return found.size;
    }

    public int movePoint(int line, int index, int x, int y) throws NoSuchElementException, UnsupportedOperationException, IndexOutOfBoundsException, IllegalArgumentException {
        Line found = lineWithPoint(line, index);
        if (!isOnMap(x, y)) {
            throw new IllegalArgumentException();
        }
        int dropped = dropTilesUnder(found);
        found.put(index, x, y);
        simplify(found);
        return dropped + dropTilesUnder(found);
    }

    public int dropPoint(int line, int index) throws NoSuchElementException, UnsupportedOperationException, IndexOutOfBoundsException, IllegalStateException {
        Line found = lineWithPoint(line, index);
        if (found.size <= MIN_POINTS) {
            throw new IllegalStateException();
        }
        dropTilesUnder(found);
        found.takeOut(index);
        simplify(found);
        dropTilesUnder(found);
        return found.size;
    }

    public int addArea(int x, int y, int reach, int cut) throws IllegalArgumentException, IllegalStateException {
        if (!isOnMap(x, y) || reach < 1 || reach > MAX_REACH || cut < reach || cut > 2 * reach) {
            throw new IllegalArgumentException();
        }
        if (map.size() >= MAX_SHAPES) {
            throw new IllegalStateException();
        }
        return putOnMap(new Area(lastNumber + 1, x, y, reach, cut));
    }

    public int moveArea(int area, int dx, int dy) throws NoSuchElementException, UnsupportedOperationException, IllegalArgumentException {
        Area found = areaOf(area);
        // In long, since a sum in int could wrap round to a place on the map.
        long x = (long) found.centreX + dx;
        long y = (long) found.centreY + dy;
        if (!isOnMap(x, y)) {
            throw new IllegalArgumentException();
        }
        int dropped = dropTilesUnder(found);
        found.centreX = (int) x;
        found.centreY = (int) y;
        return dropped + dropTilesUnder(found);
    }

    public int remove(int shape) throws NoSuchElementException {
        dropTilesUnder(shapeOf(shape));
        int at = indexOf(shape);
        if (at >= 0 && at < map.size()) {
            map.remove(at);
        }
        return map.size();
    }

    public int setLabel(int shape, int width, int rank) throws NoSuchElementException, IllegalArgumentException {
        Label label = shapeOf(shape).label;
        if (width < 0 || width > MAX_WIDTH || rank < 1 || rank > MAX_RANK) {
            throw new IllegalArgumentException();
        }
        int before = label.width;
        label.width = width;
        label.rank = rank;
        return before;
    }

    public int setTolerance(int level, int tolerance) throws IndexOutOfBoundsException, IllegalArgumentException {
        if (level < 0 || level >= tolerances.length) {
            throw new IndexOutOfBoundsException();
        }
        if (tolerance < 0 || tolerance > MAX_TOLERANCE) {
            throw new IllegalArgumentException();
        }
        int before = tolerances[level];
        tolerances[level] = tolerance;
        for (int i = 0; i < map.size(); i++) {
            if (map.get(i) instanceof Line line) {
                line.simplify(level, tolerance);
            }
        }
        dropTilesOfLevel(level);
        return before;
    }

    public int pass(int ticks) throws IllegalArgumentException {
        if (ticks < 1 || ticks > MAX_TICKS) {
            throw new IllegalArgumentException();
        }
        now += ticks;
        int dropped = 0;
        for (int i = 0; i < cache.length; i++) {
            Tile tile = cache[i];
            if (tile != null && tile.filled && now - tile.drawnAt >= LIFETIME) {
                tile.filled = false;
                dropped++;
            }
        }
        return dropped;
    }

    public int clock() {
        return now;
    }

    public int shapes() {
        return map.size();
    }

    public char kindOf(int shape) throws NoSuchElementException {
        return shapeOf(shape) instanceof Line ? 'l' : 'a';
    }

    public int points(int line) throws NoSuchElementException, UnsupportedOperationException {
        return lineOf(line).size;
    }

    public int xOf(int line, int index) throws NoSuchElementException, UnsupportedOperationException, IndexOutOfBoundsException {
        return lineWithPoint(line, index).xAt(index);
    }

    public int yOf(int line, int index) throws NoSuchElementException, UnsupportedOperationException, IndexOutOfBoundsException {
        return lineWithPoint(line, index).yAt(index);
    }

    // ---- Simplifying ----

    public boolean isKept(int line, int level, int index) throws NoSuchElementException, UnsupportedOperationException, IndexOutOfBoundsException {
        Line found = lineWithPoint(line, index);
        checkLevel(level);
        return hasBit(found.keptAt(level), index);
    }

    public boolean isKeptByMarks(int line, int level, int index) throws NoSuchElementException, UnsupportedOperationException, IndexOutOfBoundsException {
        Line found = lineWithPoint(line, index);
        if (level < 0 || level >= tolerances.length) {
            throw new IndexOutOfBoundsException();
        }
        return hasBit(found.marked(tolerances[level]), index);
    }

    public int keptPoints(int line, int level) throws NoSuchElementException, UnsupportedOperationException, IndexOutOfBoundsException {
        Line found = lineOf(line);
        checkLevel(level);
        return Integer.bitCount(found.keptAt(level));
    }

    // ---- Cells and the cache ----

    public int cellAt(int level, int column, int row, int x, int y) throws IndexOutOfBoundsException {
        checkCell(level, column, row, x, y);
        Tile tile = cachedTile(level, column, row);
        if (tile == null) {
            missCount++;
            tile = slotForNewTile();
            draw(tile, level, column, row);
        } else {
            hits++;
        }
        tile.askedAt = hits + missCount;
        return tile.cell(x, y);
    }

    public int cellByDrawing(int level, int column, int row, int x, int y) throws IndexOutOfBoundsException {
        checkCell(level, column, row, x, y);
        return drawCell(level, column * CELLS + x, row * CELLS + y);
    }

    public boolean isCached(int level, int column, int row) throws IndexOutOfBoundsException {
        checkTile(level, column, row);
        return cachedTile(level, column, row) != null;
    }

    public int ageOf(int level, int column, int row) throws IndexOutOfBoundsException, NoSuchElementException {
        checkTile(level, column, row);
        Tile tile = cachedTile(level, column, row);
        if (tile == null) {
            throw new NoSuchElementException();
        }
        return now - tile.drawnAt;
    }

    public int cached() {
        int count = 0;
        for (int i = 0; i < cache.length; i++) {
            Tile tile = cache[i];
            if (tile != null && tile.filled) {
                count++;
            }
        }
        return count;
    }

    public int misses() {
        return missCount;
    }

    public float hitShare() throws ArithmeticException {
        int asked = hits + missCount;
        if (asked == 0) {
            throw new ArithmeticException();
        }
        return (float) hits / (float) asked;
    }

    // ---- Areas and lines at the borders of tiles ----

    public int areaIn(int area, int level, int column, int row) throws NoSuchElementException, UnsupportedOperationException, IndexOutOfBoundsException {
        Area found = areaOf(area);
        checkTile(level, column, row);
        int side = tileSide(level);
        int left = column * side;
        int low = row * side;
        found.trace(outline);
        outline.cutInto(spareOutline, true, left, 1);
        spareOutline.cutInto(outline, true, left + side, -1);
        outline.cutInto(spareOutline, false, low, 1);
        spareOutline.cutInto(outline, false, low + side, -1);
        return 2 * outline.doubleSize();
    }

    public int areaByQuarters(int area, int level, int column, int row) throws NoSuchElementException, UnsupportedOperationException, IndexOutOfBoundsException {
        Area found = areaOf(area);
        checkTile(level, column, row);
        int side = tileSide(level);
        int right = Math.min(column * side + side, found.right());
        int high = Math.min(row * side + side, found.high());
        int quarters = 0;
        for (int x = Math.max(column * side, found.left()); x < right; x++) {
            for (int y = Math.max(row * side, found.low()); y < high; y++) {
                quarters += found.quartersOf(x, y);
            }
        }
        return quarters;
    }

    public int crossesRight(int line, int level, int column, int row) throws NoSuchElementException, UnsupportedOperationException, IndexOutOfBoundsException {
        Line found = lineOf(line);
        checkTile(level, column, row);
        int side = tileSide(level);
        return Integer.bitCount(found.rightSidesMet(level, column * side, row * side));
    }

    public int crossesLeft(int line, int level, int column, int row) throws NoSuchElementException, UnsupportedOperationException, IndexOutOfBoundsException {
        Line found = lineOf(line);
        checkTile(level, column, row);
        int left = column * tileSide(level);
        int cell = cellSide(level);
        int count = 0;
        for (int i = 0; i < CELLS; i++) {
            int low = (row * CELLS + i) * cell;
            if (found.meets(level, left, low, left, low + cell)) {
                count++;
            }
        }
        return count;
    }

    public int segmentsIn(int level, int column, int row) throws IndexOutOfBoundsException {
        checkTile(level, column, row);
        int side = tileSide(level);
        int count = 0;
        for (int i = 0; i < map.size(); i++) {
            if (map.get(i) instanceof Line line) {
                count += line.segmentsMeeting(level, column * side, row * side);
            }
        }
        return count;
    }

    // ---- Labels ----

    public char placeOf(int shape, int level) throws NoSuchElementException, IllegalStateException, IndexOutOfBoundsException {
        Label label = labelOf(shape);
        checkLevel(level);
        placeLabels(level);
        return label.place;
    }

    public int labelLeft(int shape, int level) throws NoSuchElementException, IllegalStateException, IndexOutOfBoundsException {
        Label label = labelOf(shape);
        checkLevel(level);
        placeLabels(level);
        return label.isShown() ? label.left : NONE;
    }

    public int labelLow(int shape, int level) throws NoSuchElementException, IllegalStateException, IndexOutOfBoundsException {
        Label label = labelOf(shape);
        checkLevel(level);
        placeLabels(level);
        return label.isShown() ? label.low : NONE;
    }

    public int shownLabels(int level) throws IndexOutOfBoundsException {
        checkLevel(level);
        placeLabels(level);
        int count = 0;
        for (int i = 0; i < map.size(); i++) {
            Shape shape = map.get(i);
            if (shape != null && shape.label.isShown()) {
                count++;
            }
        }
        return count;
    }

    // ---- Sums and checks ----

    public long drawn() {
        return drawnCells;
    }

    public double meanKept(int level) throws IndexOutOfBoundsException, ArithmeticException {
        checkLevel(level);
        int lines = 0;
        int sum = 0;
        for (int i = 0; i < map.size(); i++) {
            if (map.get(i) instanceof Line line) {
                lines++;
                sum += Integer.bitCount(line.keptAt(level));
            }
        }
        if (lines == 0) {
            throw new ArithmeticException();
        }
        return (double) sum / (double) lines;
    }

    public boolean isFresh() {
        for (int i = 0; i < cache.length; i++) {
            Tile tile = cache[i];
            if (tile != null && tile.filled && !isAsDrawnNow(tile)) {
                return false;
            }
        }
        return true;
    }

    // ---- Finding shapes and testing arguments ----

    private static boolean isOnMap(long x, long y) {
        return x >= 0 && x <= MAP_SIDE && y >= 0 && y <= MAP_SIDE;
    }

    private static boolean hasBit(int bits, int index) {
        return (bits >> index & 1) != 0;
    }

    private static int tileSide(int level) {
        return MAP_SIDE >> level;
    }

    private static int cellSide(int level) {
        return CELLS >> level;
    }

    private static void checkLevel(int level) {
        if (level < 0 || level >= LEVELS) {
            throw new IndexOutOfBoundsException();
        }
    }

    private static void checkTile(int level, int column, int row) {
        checkLevel(level);
        int tiles = 1 << level;
        if (column < 0 || column >= tiles || row < 0 || row >= tiles) {
            throw new IndexOutOfBoundsException();
        }
    }

    private static void checkCell(int level, int column, int row, int x, int y) {
        checkTile(level, column, row);
        if (x < 0 || x >= CELLS || y < 0 || y >= CELLS) {
            throw new IndexOutOfBoundsException();
        }
    }

    private int indexOf(int number) {
        for (int i = 0; i < map.size(); i++) {
            Shape shape = map.get(i);
            if (shape != null && shape.number == number) {
                return i;
            }
        }
        return NONE;
    }

    private Shape shapeOf(int number) {
        int at = indexOf(number);
        Shape found = at < 0 || at >= map.size() ? null : map.get(at);
        if (found == null) {
            throw new NoSuchElementException();
        }
        return found;
    }

    private Line lineOf(int number) {
        if (shapeOf(number) instanceof Line line) {
            return line;
        }
        throw new UnsupportedOperationException();
    }

    private Line lineWithPoint(int number, int index) {
        Line line = lineOf(number);
        if (index < 0 || index >= line.size) {
            throw new IndexOutOfBoundsException();
        }
        return line;
    }

    private Area areaOf(int number) {
        if (shapeOf(number) instanceof Area area) {
            return area;
        }
        throw new UnsupportedOperationException();
    }

    private Label labelOf(int number) {
        Label label = shapeOf(number).label;
        if (label.width == 0) {
            throw new IllegalStateException();
        }
        return label;
    }

    private int putOnMap(Shape shape) {
        lastNumber = shape.number;
        map.add(shape);
        dropTilesUnder(shape);
        return shape.number;
    }

    private void simplify(Line line) {
        for (int level = 0; level < tolerances.length; level++) {
            line.simplify(level, tolerances[level]);
        }
    }

    // ---- Keeping and drawing tiles ----

    private int dropTilesUnder(Shape shape) {
        int dropped = 0;
        for (int i = 0; i < cache.length; i++) {
            Tile tile = cache[i];
            if (tile != null && tile.filled && tile.touches(shape)) {
                tile.filled = false;
                dropped++;
            }
        }
        return dropped;
    }

    private void dropTilesOfLevel(int level) {
        for (int i = 0; i < cache.length; i++) {
            Tile tile = cache[i];
            if (tile != null && tile.level == level) {
                tile.filled = false;
            }
        }
    }

    /** Returns the tile if it is in the cache, else null. */
    private Tile cachedTile(int level, int column, int row) {
        for (int i = 0; i < cache.length; i++) {
            Tile tile = cache[i];
            if (tile != null && tile.filled && tile.level == level && tile.column == column && tile.row == row) {
                return tile;
            }
        }
        return null;
    }

    private Tile slotForNewTile() {
        Tile oldest = null;
        for (int i = 0; i < cache.length; i++) {
            Tile tile = cache[i];
            if (tile != null && !tile.filled) {
                return tile;
            }
            if (tile != null && (oldest == null || tile.askedAt < oldest.askedAt)) {
                oldest = tile;
            }
        }
        // The cache always has tiles, so this new one is never used.
        return oldest == null ? new Tile() : oldest;
    }

    private void draw(Tile tile, int level, int column, int row) {
        tile.filled = true;
        tile.level = level;
        tile.column = column;
        tile.row = row;
        tile.drawnAt = now;
        for (int y = 0; y < CELLS; y++) {
            for (int x = 0; x < CELLS; x++) {
                int shown = drawCell(level, column * CELLS + x, row * CELLS + y);
                tile.setCell(x, y, shown);
                if (shown != 0) {
                    drawnCells++;
                }
            }
        }
    }

    /** Draws a cell that is told by its column and row among all cells of the map at the level. */
    private int drawCell(int level, int cellColumn, int cellRow) {
        int side = cellSide(level);
        for (int i = map.size() - 1; i >= 0; i--) {
            Shape shape = map.get(i);
            if (shape != null && shape.showsIn(level, cellColumn * side, cellRow * side)) {
                return shape.number;
            }
        }
        return 0;
    }

    private boolean isAsDrawnNow(Tile tile) {
        for (int y = 0; y < CELLS; y++) {
            for (int x = 0; x < CELLS; x++) {
                int shown = drawCell(tile.level, tile.column * CELLS + x, tile.row * CELLS + y);
                if (tile.cell(x, y) != shown) {
                    return false;
                }
            }
        }
        return true;
    }

    // ---- Putting labels ----

    private void placeLabels(int level) {
        for (int i = 0; i < map.size(); i++) {
            Shape shape = map.get(i);
            if (shape != null) {
                shape.label.place = HIDDEN;
            }
        }
        for (int rank = MAX_RANK; rank >= 1; rank--) {
            for (int i = 0; i < map.size(); i++) {
                Shape shape = map.get(i);
                if (shape != null && shape.label.width > 0 && shape.label.rank == rank) {
                    placeLabel(shape, level);
                }
            }
        }
    }

    private void placeLabel(Shape shape, int level) {
        Label label = shape.label;
        int middleX = shape.left() + shape.right();
        int middleY = shape.low() + shape.high();
        for (int i = 0; i < PLACES.length(); i++) {
            char place = PLACES.charAt(i);
            label.moveTo(place, middleX, middleY, cellSide(level));
            if (label.isInsideMap() && !isTaken(label)) {
                label.place = place;
                return;
            }
        }
    }

    private boolean isTaken(Label label) {
        for (int i = 0; i < map.size(); i++) {
            Shape other = map.get(i);
            if (other != null && other.label.isShown() && other.label.overlaps(label)) {
                return true;
            }
        }
        return false;
    }

    // ---- The parts ----

    /** What lines and areas have in common. Its rectangle is that of the whole shape, even outside of the map. */
    private abstract static class Shape {
        final int number;
        final Label label;

        Shape(int number) {
            this.number = number;
            label = new Label();
        }

        abstract int left();

        abstract int right();

        abstract int low();

        abstract int high();

        /** Tells whether the shape shows in the cell whose least coordinates are given. */
        abstract boolean showsIn(int level, int cellLeft, int cellLow);
    }

    /** A line. Sets of its points are held as bits of an int, one for each index. */
    private static final class Line extends Shape {
        private final int[] xs;
        private final int[] ys;
        private final int[] kept;
        private int size;

        Line(int number) {
            super(number);
            xs = new int[MAX_POINTS];
            ys = new int[MAX_POINTS];
            kept = new int[LEVELS];
        }

        int xAt(int index) {
            return index < 0 || index >= xs.length ? 0 : xs[index];
        }

        int yAt(int index) {
            return index < 0 || index >= ys.length ? 0 : ys[index];
        }

        int keptAt(int level) {
            return level < 0 || level >= kept.length ? 0 : kept[level];
        }

        void put(int index, int x, int y) {
            if (index >= 0 && index < xs.length && index < ys.length) {
                xs[index] = x;
                ys[index] = y;
            }
        }

        void append(int x, int y) {
            if (size < MAX_POINTS) {
                put(size, x, y);
                size++;
            }
        }

        void takeOut(int index) {
            if (index < 0 || index >= size) {
                return;
            }
            for (int i = index; i + 1 < size; i++) {
                put(i, xAt(i + 1), yAt(i + 1));
            }
            size--;
        }

        int left() {
            int least = xAt(0);
            for (int i = 1; i < size; i++) {
                least = Math.min(least, xAt(i));
            }
            return least;
        }

        int right() {
            int greatest = xAt(0);
            for (int i = 1; i < size; i++) {
                greatest = Math.max(greatest, xAt(i));
            }
            return greatest;
        }

        int low() {
            int least = yAt(0);
            for (int i = 1; i < size; i++) {
                least = Math.min(least, yAt(i));
            }
            return least;
        }

        int high() {
            int greatest = yAt(0);
            for (int i = 1; i < size; i++) {
                greatest = Math.max(greatest, yAt(i));
            }
            return greatest;
        }

        void simplify(int level, int tolerance) {
            if (level >= 0 && level < kept.length) {
                kept[level] = ends() | keptBetween(this, 0, size - 1, tolerance, 0);
            }
        }

        private int ends() {
            return 1 | 1 << size - 1;
        }

        /** Divides the line at its farthest point, then both of its parts. */
        private static int keptBetween(Line line, int from, int to, int tolerance, int depth) {
            // Each depth has at least one point of its own, so a line never needs as many as it has points.
            if (depth >= MAX_POINTS) {
                return 0;
            }
            int far = line.farPoint(from, to, tolerance);
            if (far == NONE) {
                return 0;
            }
            return 1 << far
                | keptBetween(line, from, far, tolerance, depth + 1)
                | keptBetween(line, far, to, tolerance, depth + 1);
        }

        /** Marks points round by round until a round marks no more. */
        int marked(int tolerance) {
            int marks = ends();
            for (int round = 0; round < MAX_POINTS; round++) {
                int more = markedOnce(marks, tolerance);
                if (more == marks) {
                    return marks;
                }
                marks = more;
            }
            return marks;
        }

        private int markedOnce(int marks, int tolerance) {
            int more = marks;
            int from = 0;
            for (int to = 1; to < size; to++) {
                if (hasBit(marks, to)) {
                    int far = farPoint(from, to, tolerance);
                    if (far != NONE) {
                        more |= 1 << far;
                    }
                    from = to;
                }
            }
            return more;
        }

        /** Returns the first of the farthest points between two others, NONE if it is within the tolerance. */
        private int farPoint(int from, int to, int tolerance) {
            int dx = xAt(to) - xAt(from);
            int dy = yAt(to) - yAt(from);
            int length = dx * dx + dy * dy;
            // All is squared, and the distance to a straight line is multiplied by its length, to stay whole.
            int most = tolerance * tolerance * (length == 0 ? 1 : length);
            int far = NONE;
            for (int i = from + 1; i < to; i++) {
                int x = xAt(i) - xAt(from);
                int y = yAt(i) - yAt(from);
                int across = dx * y - dy * x;
                int distance = length == 0 ? x * x + y * y : across * across;
                if (distance > most) {
                    most = distance;
                    far = i;
                }
            }
            return far;
        }

        boolean showsIn(int level, int cellLeft, int cellLow) {
            int side = cellSide(level);
            return meets(level, cellLeft, cellLow, cellLeft + side, cellLow + side);
        }

        /** Tells whether a segment at the level has a point in common with a rectangle. */
        boolean meets(int level, int left, int low, int right, int high) {
            int points = keptAt(level);
            int from = 0;
            for (int to = 1; to < size; to++) {
                if (hasBit(points, to)) {
                    if (segmentMeets(from, to, left, low, right, high)) {
                        return true;
                    }
                    from = to;
                }
            }
            return false;
        }

        int segmentsMeeting(int level, int left, int low) {
            int side = tileSide(level);
            int points = keptAt(level);
            int count = 0;
            int from = 0;
            for (int to = 1; to < size; to++) {
                if (hasBit(points, to)) {
                    if (segmentMeets(from, to, left, low, left + side, low + side)) {
                        count++;
                    }
                    from = to;
                }
            }
            return count;
        }

        /** Returns a bit for each cell at a tile's right border whose right side is met by a segment in the tile. */
        int rightSidesMet(int level, int left, int low) {
            int side = tileSide(level);
            int points = keptAt(level);
            int met = 0;
            int from = 0;
            for (int to = 1; to < size; to++) {
                if (hasBit(points, to)) {
                    if (segmentMeets(from, to, left, low, left + side, low + side)) {
                        met |= sidesMet(from, to, level, left + side, low);
                    }
                    from = to;
                }
            }
            return met;
        }

        private int sidesMet(int from, int to, int level, int x, int low) {
            int cell = cellSide(level);
            int met = 0;
            for (int i = 0; i < CELLS; i++) {
                if (segmentMeets(from, to, x, low + i * cell, x, low + i * cell + cell)) {
                    met |= 1 << i;
                }
            }
            return met;
        }

        /** They meet unless they are apart in a coordinate or all corners lie on one side of the segment. */
        private boolean segmentMeets(int from, int to, int left, int low, int right, int high) {
            int x = xAt(from);
            int y = yAt(from);
            int dx = xAt(to) - x;
            int dy = yAt(to) - y;
            if (Math.max(x, x + dx) < left || Math.min(x, x + dx) > right
                || Math.max(y, y + dy) < low || Math.min(y, y + dy) > high) {
                return false;
            }
            int a = dx * (low - y) - dy * (left - x);
            int b = dx * (low - y) - dy * (right - x);
            int c = dx * (high - y) - dy * (left - x);
            int d = dx * (high - y) - dy * (right - x);
            int least = Math.min(Math.min(a, b), Math.min(c, d));
            int greatest = Math.max(Math.max(a, b), Math.max(c, d));
            return least <= 0 && greatest >= 0;
        }
    }

    /** An area: a square around its centre whose corners are cut off. */
    private static final class Area extends Shape {
        private int centreX;
        private int centreY;
        private final int reach;
        private final int cut;

        Area(int number, int centreX, int centreY, int reach, int cut) {
            super(number);
            this.centreX = centreX;
            this.centreY = centreY;
            this.reach = reach;
            this.cut = cut;
        }

        int left() {
            return centreX - reach;
        }

        int right() {
            return centreX + reach;
        }

        int low() {
            return centreY - reach;
        }

        int high() {
            return centreY + reach;
        }

        boolean showsIn(int level, int cellLeft, int cellLow) {
            int side = cellSide(level);
            int x = gap(centreX, cellLeft, cellLeft + side);
            int y = gap(centreY, cellLow, cellLow + side);
            // Less, not equal: a border in common has the size 0.
            return x < reach && y < reach && x + y < cut;
        }

        private static int gap(int centre, int least, int greatest) {
            return Math.max(0, Math.max(least - centre, centre - greatest));
        }

        void trace(Outline outline) {
            int corner = cut - reach;
            outline.clear();
            outline.append(centreX + reach, centreY - corner);
            outline.append(centreX + reach, centreY + corner);
            outline.append(centreX + corner, centreY + reach);
            outline.append(centreX - corner, centreY + reach);
            outline.append(centreX - reach, centreY + corner);
            outline.append(centreX - reach, centreY - corner);
            outline.append(centreX - corner, centreY - reach);
            outline.append(centreX + corner, centreY - reach);
        }

        /** Returns how many quarters of the square with these least coordinates lie in the area. */
        int quartersOf(int x, int y) {
            int left = 4 * (x - centreX);
            int low = 4 * (y - centreY);
            return inner(left + 2, low + 1) + inner(left + 3, low + 2) + inner(left + 2, low + 3) + inner(left + 1, low + 2);
        }

        /**
         * Returns 1 if a point, told in fourths from the centre, lies in the area. The borders of the area run along
         * those of quarters, so one point inside of a quarter speaks for all of it.
         */
        private int inner(int fourthsX, int fourthsY) {
            int x = Math.abs(fourthsX);
            int y = Math.abs(fourthsY);
            return x <= 4 * reach && y <= 4 * reach && x + y <= 4 * cut ? 1 : 0;
        }
    }

    /** The label of a shape, without one if its width is 0. Its place is told in halves of the map's coordinates. */
    private static final class Label {
        private int width;
        private int rank;
        private char place;
        private int left;
        private int low;
        private int right;
        private int high;

        Label() {
            place = HIDDEN;
        }

        boolean isShown() {
            return width > 0 && place != HIDDEN;
        }

        void moveTo(char toPlace, int middleX, int middleY, int cell) {
            // Doubled: a label is 2 * width * cell long, and half of that is width * cell.
            int half = width * cell;
            left = toPlace == 'r' ? middleX : toPlace == 'l' ? middleX - 2 * half : middleX - half;
            low = toPlace == 'a' ? middleY : toPlace == 'b' ? middleY - 2 * cell : middleY - cell;
            right = left + 2 * half;
            high = low + 2 * cell;
        }

        boolean isInsideMap() {
            return left >= 0 && low >= 0 && right <= 2 * MAP_SIDE && high <= 2 * MAP_SIDE;
        }

        boolean overlaps(Label other) {
            return left < other.right && other.left < right && low < other.high && other.low < high;
        }
    }

    /** A place for a tile in the cache; it holds one if it is filled. */
    private static final class Tile {
        private boolean filled;
        private int level;
        private int column;
        private int row;
        private int drawnAt;
        private int askedAt;
        private final int[] cells;

        Tile() {
            cells = new int[CELLS * CELLS];
        }

        int cell(int x, int y) {
            int at = y * CELLS + x;
            return at < 0 || at >= cells.length ? 0 : cells[at];
        }

        void setCell(int x, int y, int shown) {
            int at = y * CELLS + x;
            if (at >= 0 && at < cells.length) {
                cells[at] = shown;
            }
        }

        boolean touches(Shape shape) {
            int side = tileSide(level);
            int left = column * side;
            int low = row * side;
            return shape.left() <= left + side && shape.right() >= left && shape.low() <= low + side && shape.high() >= low;
        }
    }

    /** The outline of a convex figure, by its corners in their order; neighbouring ones can be the same. */
    private static final class Outline {
        private final int[] xs;
        private final int[] ys;
        private int size;

        Outline() {
            // An area has 8 corners, and each of the 4 cuts adds at most one for each of its two crossings.
            xs = new int[16];
            ys = new int[16];
        }

        void clear() {
            size = 0;
        }

        void append(int x, int y) {
            if (size >= 0 && size < xs.length && size < ys.length) {
                xs[size] = x;
                ys[size] = y;
                size++;
            }
        }

        private int xAt(int index) {
            return index < 0 || index >= xs.length ? 0 : xs[index];
        }

        private int yAt(int index) {
            return index < 0 || index >= ys.length ? 0 : ys[index];
        }

        /** Puts what lies on one side of a border into another outline: the greater coordinates if the sign is 1. */
        void cutInto(Outline target, boolean alongX, int border, int sign) {
            target.clear();
            for (int i = 0; i < size; i++) {
                int next = i + 1 < size ? i + 1 : 0;
                int here = sign * ((alongX ? xAt(i) : yAt(i)) - border);
                int there = sign * ((alongX ? xAt(next) : yAt(next)) - border);
                if (here >= 0) {
                    target.append(xAt(i), yAt(i));
                }
                if (here > 0 && there < 0 || here < 0 && there > 0) {
                    target.append(between(xAt(i), xAt(next), here, there), between(yAt(i), yAt(next), here, there));
                }
            }
        }

        /** Returns where a coordinate is when the distance to the border, from here to there, is 0. */
        private static int between(int from, int to, int here, int there) {
            int span = here - there;
            // All sides run along a coordinate or at half a right angle, so that nothing is left over.
            return span == 0 ? from : from + (to - from) * here / span;
        }

        int doubleSize() {
            int sum = 0;
            for (int i = 0; i < size; i++) {
                int next = i + 1 < size ? i + 1 : 0;
                sum += xAt(i) * yAt(next) - xAt(next) * yAt(i);
            }
            return Math.abs(sum);
        }
    }
}
