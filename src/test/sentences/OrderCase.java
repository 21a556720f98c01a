import java.util.List;

/** A board with room for one wire on a segment, and what comes of it by each order of laying. */
final class OrderCase {
    private static final int CROWDED = LookupBoard.CROWDED;
    private static final int NONE = LookupBoard.NONE;

    /** The orders that are the best, worse or crowded, in each way in which that can be. */
    static final List<OrderCase> ALL = List.of(
        new OrderCase(2, 7, new int[] {7, 7, 5}, new int[][] {{0, 0, 8}, {2, 0, 7}}),
        new OrderCase(2, 8, new int[] {14, CROWDED, 8}, new int[][] {{1, 0, 0}, {0, 2, 7}, {2, 2, 25}}),
        new OrderCase(1, 7, new int[] {9, 7, 9}, new int[][] {{0, 2, 28}, {0, 1, 7}}),
        new OrderCase(1, 14, new int[] {16, 14, CROWDED}, new int[][] {{1, 1, 31}, {2, 2, 7}, {0, 2, 8}}),
        new OrderCase(1, 10, new int[] {14, 10, 10}, new int[][] {{1, 2, 8}, {8, 0, 25}, {2, 1, 26}}),
        new OrderCase(2, 11, new int[] {CROWDED, 13, 11}, new int[][] {{8, 2, 24}, {7, 0, 25}, {6, 1, 31}}),
        new OrderCase(NONE, 6, new int[] {CROWDED, CROWDED, CROWDED}, new int[][] {{8, 1, 24}, {1, 2, 26}}),
        new OrderCase(2, 5, new int[] {CROWDED, CROWDED, 5}, new int[][] {{7, 1, 0}, {2, 2, 25}}),
        new OrderCase(1, 16, new int[] {CROWDED, 12, 16}, new int[][] {{0, 0, 8}, {2, 2, 6}, {1, 0, 28}}),
        new OrderCase(1, 9, new int[] {CROWDED, 9, CROWDED}, new int[][] {{7, 2, 28}, {2, 1, 29}}),
        new OrderCase(1, 16, new int[] {CROWDED, 16, 16}, new int[][] {{6, 0, 28}, {1, 2, 29}, {2, 0, 6}}),
        new OrderCase(0, 15, new int[] {13, 15, 17}, new int[][] {{0, 2, 29}, {2, 1, 27}, {1, 1, 8}}),
        new OrderCase(0, 14, new int[] {12, 14, CROWDED}, new int[][] {{6, 1, 31}, {0, 0, 8}, {1, 0, 6}}),
        new OrderCase(0, 4, new int[] {4, 6, 4}, new int[][] {{1, 2, 2}, {2, 1, 6}}),
        new OrderCase(0, 14, new int[] {14, CROWDED, 16}, new int[][] {{1, 1, 28}, {8, 2, 0}, {7, 1, 28}}),
        new OrderCase(0, 9, new int[] {9, CROWDED, CROWDED}, new int[][] {{0, 0, 27}, {1, 2, 6}, {2, 0, 26}}),
        new OrderCase(0, 6, new int[] {6, CROWDED, 6}, new int[][] {{0, 2, 1}, {2, 0, 27}}),
        new OrderCase(0, 7, new int[] {5, 5, 7}, new int[][] {{8, 1, 1}, {6, 0, 2}}),
        new OrderCase(0, 8, new int[] {8, 8, CROWDED}, new int[][] {{0, 2, 29}, {1, 2, 6}}),
        new OrderCase(0, 3, new int[] {3, 3, 3}, new int[][] {{6, 1, 7}, {8, 2, 1}}));

    final int best;
    final int segmentsNow;
    final int[] segments;
    final Scene scene;

    private OrderCase(int best, int segmentsNow, int[] segments, int[][] wires) {
        this.best = best;
        this.segmentsNow = segmentsNow;
        this.segments = segments;
        this.scene = new Scene("orders that make " + segments[0] + ", " + segments[1] + ", " + segments[2], x -> {
            x.load("0=00;1=00;2=00;6=00;7=00;8=00");
            x.set(0, 1);
            x.keep();
            for (int[] wire : wires) {
                x.connect(wire[0], wire[1], wire[2]);
            }
            // The wires are recorded as one act, so that the history has room.
            x.keep();
            for (int turn = 0; turn < wires.length; turn++) {
                x.undo();
            }
            x.restore();
        });
    }
}
