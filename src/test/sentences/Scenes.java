import java.util.List;

/** The boards on which calls are refused: empty, with some cells, full, and crowded ones. */
final class Scenes {
    static final int LEAST = Integer.MIN_VALUE;
    static final int MOST = Integer.MAX_VALUE;

    /** What no number of a place, input, source, table, setting or order may be. */
    static final int[] EXTREMES = {LEAST, LEAST + 1, -256, -24, -2, -1, 256, 1 << 30, MOST - 1, MOST};

    static final Scene NEW = new Scene("a new board", x -> { });

    /** Three cells at 3, 7 and 16, one of which hangs on itself; a text with a fault; a snapshot. */
    static final Scene SOME = new Scene("a board of three cells", x -> {
        x.load("7=96/p0/p1/1;16=e8/c7/c7/p7;3=0f/c3");
        x.keep();
        x.setTable(3, 17);
        x.clearText();
        x.write("5=1");
    });

    /** A cell at each place, none with a wire; the text is full, and there is one state. */
    static final Scene FULL = new Scene("a full board", x -> {
        putEverywhere(x);
        x.keep();
        for (int turn = 0; turn < 4; turn++) {
            x.undo();
        }
        x.restore();
        x.write("1=00;".repeat(16));
    });

    /** The wires lie as they are, but would take the way of each other if laid anew in any order. */
    static final Scene CROWDED_IF_ANEW = new Scene("a board that is crowded if laid anew", x -> {
        x.set(0, 1);
        x.load("1=00;6=00;7=00");
        x.connect(7, 0, 24);
        x.connect(6, 0, 1);
        x.write(";");
    });

    static final List<Scene> ALL = List.of(NEW, SOME, FULL, CROWDED_IF_ANEW);

    private Scenes() {
    }

    static void putEverywhere(Watched x) {
        for (int place = 0; place < 24; place++) {
            x.put(place, place);
        }
    }

    /** The scene of a plan that is loaded into a new board. */
    static Scene plan(String plan) {
        return new Scene(plan, x -> Checks.dueNotBelow("load of " + plan, x.load(plan), 1));
    }

    static Watched loaded(String plan) {
        return plan(plan).made();
    }

    /** A board on which a segment holds so many wires, at such a price, with cells at some places. */
    static Watched cells(int most, int price, int... places) {
        Watched x = new Watched();
        x.set(0, most);
        x.set(1, price);
        for (int place : places) {
            x.put(place, 0);
        }
        return x;
    }
}
