/** Servers that several tests begin with. */
final class Recipes {
    /** Numbers of no shape of mixed(): never given, taken away, not given yet, and far from all. */
    static final int[] NO_NUMBERS = {0, -1, 3, 4, 5, 13, 257, 65537, Integer.MIN_VALUE, Integer.MIN_VALUE + 1, Integer.MAX_VALUE};

    private Recipes() {
    }

    /**
     * The line 1 with 4 points, the area 2, both with labels that are in each other's way; 3 and 4 were taken away.
     * The cache is full, and its tiles were last asked for in another order than that in which they were drawn.
     */
    static TileServer mixed() {
        TileServer server = new TileServer();
        server.addLine(28, 20, 40, 44);
        server.extend(1, 30, 40);
        server.extend(1, 36, 22);
        server.addArea(32, 32, 5, 8);
        server.remove(server.addLine(1, 2, 3, 4));
        server.remove(server.addArea(9, 9, 9, 9));
        server.setLabel(1, 3, 5);
        server.setLabel(2, 3, 5);
        server.setTolerance(1, 3);
        server.cellAt(0, 0, 0, 0, 0);
        server.cellAt(3, 7, 7, 7, 7);
        server.pass(3);
        server.cellAt(2, 0, 3, 0, 0);
        server.cellAt(1, 1, 1, 0, 0);
        server.cellAt(3, 0, 7, 0, 0);
        server.cellAt(2, 0, 3, 1, 1);
        server.cellAt(0, 0, 0, 1, 1);
        return server;
    }

    /** The line 1 with 9 points and the areas 2 to 12, so that neither a shape nor a point has room. */
    static TileServer full() {
        TileServer server = new TileServer();
        server.addLine(0, 0, 64, 64);
        for (int i = 3; i <= 9; i++) {
            server.extend(1, i, 2 * i);
        }
        for (int i = 2; i <= 12; i++) {
            server.addArea(5 * i, 5, 1, 1);
        }
        server.cellAt(0, 0, 0, 0, 0);
        return server;
    }

    /** The line 1 with 2 points and the area 2, without labels. */
    static TileServer plain() {
        TileServer server = new TileServer();
        server.addLine(8, 8, 50, 40);
        server.addArea(32, 32, 8, 12);
        server.cellAt(2, 1, 1, 0, 0);
        return server;
    }

    /** A line through the points whose coordinates are given one after the other; its number is 1. */
    static TileServer line(int... coordinates) {
        TileServer server = new TileServer();
        server.addLine(coordinates[0], coordinates[1], coordinates[2], coordinates[3]);
        for (int i = 4; i < coordinates.length; i += 2) {
            server.extend(1, coordinates[i], coordinates[i + 1]);
        }
        return server;
    }

    static TileServer area(int x, int y, int reach, int cut) {
        TileServer server = new TileServer();
        server.addArea(x, y, reach, cut);
        return server;
    }
}
