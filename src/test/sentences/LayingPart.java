/** What the terms say of laying all wires anew. */
final class LayingPart {
    private static final String LAYING = "LAYING ALL ANEW";

    private LayingPart() {
    }

    static void run() {
        takenAwayFirst();
        byPlaces();
        farthestFirst();
        nearestFirst();
        columnsAndRows();
        endsAndNotWays();
        nearestAndFarthestEnds();
    }

    /** Two cells whose wires both want the segment 0-1, on which one has room. */
    private static Watched rivals(int one, int other) {
        Watched x = Scenes.cells(1, 1, one, other);
        x.connect(one, 0, 24);
        x.connect(other, 0, 24);
        return x;
    }

    private static void dueAnew(Watched x, int order, String call, int place, String want) {
        x.layAnew(order);
        Checks.due(call + ", the way to " + place, x.way(place, 0), want);
    }

    private static void takenAwayFirst() {
        Checks.holds(LAYING, "All wires are taken away, and laid one after the other, in an order:");
        // Each segment has room for one wire: they could not be laid beside what was.
        Watched x = Scenes.cells(1, 1, 0, 1, 6);
        x.connect(0, 0, 1);
        x.connect(0, 1, 6);
        for (int order = 0; order < 3; order++) {
            Checks.due("segments by order " + order, x.layAnew(order), 2);
            Checks.due("held(0, 1)", x.held(0, 1), 1);
            Checks.due("held(0, 6)", x.held(0, 6), 1);
            Checks.due("of all", x.count(2), 2);
        }
        // Prices count those that are laid, and not those that lay there.
        Watched y = Scenes.cells(4, 9, 1, 2);
        y.connect(1, 0, 24);
        y.connect(1, 1, 24);
        Checks.due("the second one", y.way(1, 1), "0-6-7-1");
        y.connect(1, 0, 32);
        Checks.due("one wire alone", y.layAnew(0), 1);
        Checks.due("its way", y.way(1, 1), "0-1");
    }

    private static void byPlaces() {
        Checks.holds(LAYING, "0 by the places of their cells, of one cell by inputs;");
        Watched x = rivals(2, 1);
        Checks.due("ahead of it", x.way(1, 0), "0-6-7-1");
        dueAnew(x, 0, "by places", 1, "0-1");
        dueAnew(x, 0, "by places", 2, "0-6-7-1-2");
        // By the places of the cells, and not by those of the sources.
        Watched y = Scenes.cells(1, 1, 0, 2, 7, 8);
        y.connect(8, 0, 0);
        y.connect(7, 0, 2);
        Checks.due("ahead of it", y.way(8, 0), "0-1-2-8");
        Checks.due("segments", y.layAnew(0), 5);
        Checks.due("to 7 first", y.way(7, 0), "2-1-7");
        Checks.due("to 8 then", y.way(8, 0), "0-6-7-8");
        Watched z = Scenes.cells(1, 1, 7);
        for (int input = 2; input >= 1; input--) {
            z.connect(7, input, 24);
        }
        Checks.due("the input 2 ahead of it", z.way(7, 2), "0-1-7");
        Checks.due("segments", z.layAnew(0), 4);
        Checks.due("the input 1 first", z.way(7, 1), "0-1-7");
        Checks.due("the input 2 then", z.way(7, 2), "0-6-7");
        // All inputs of a cell come ahead of the next cell's.
        Watched w = Scenes.cells(1, 1, 7, 8);
        w.connect(7, 2, 24);
        w.connect(8, 0, 24);
        w.layAnew(0);
        Checks.due("the cell 7 first", w.way(7, 2), "0-1-7");
        Checks.due("the cell 8 then", w.way(8, 0), "0-6-7-8");
    }

    private static void farthestFirst() {
        Checks.holds(LAYING, "1 those first whose ends are the farthest from each other (columns and rows together), "
            + "of several as by 0;");
        Watched x = rivals(1, 2);
        Checks.due("ahead of it", x.way(1, 0), "0-1");
        dueAnew(x, 1, "the farthest first", 2, "0-1-2");
        dueAnew(x, 1, "the farthest first", 1, "0-6-7-1");
        Watched y = rivals(7, 2);
        Checks.due("ahead of it", y.way(7, 0), "0-1-7");
        dueAnew(y, 1, "as far, by places", 2, "0-1-2");
        dueAnew(y, 1, "as far, by places", 7, "0-6-7");
        Watched z = Scenes.cells(1, 1, 7);
        z.connect(7, 2, 24);
        z.connect(7, 0, 24);
        dueAnew(z, 1, "as far, by inputs", 7, "0-1-7");
        Checks.due("as far, by inputs", z.way(7, 2), "0-6-7");
    }

    private static void nearestFirst() {
        Checks.holds(LAYING, "2 as by 1, but the nearest first.");
        Watched x = rivals(8, 1);
        Checks.due("ahead of it", x.way(1, 0), "0-6-7-1");
        dueAnew(x, 2, "the nearest first", 1, "0-1");
        dueAnew(x, 2, "the nearest first", 8, "0-6-7-8");
        // The nearer one is behind the farther one by places.
        Watched f = rivals(3, 7);
        Checks.due("ahead of it", f.way(3, 0), "0-1-2-3");
        dueAnew(f, 2, "the nearest first", 7, "0-1-7");
        Checks.due("the farthest then", f.way(3, 0).startsWith("0-6"), true);
        Watched y = rivals(7, 2);
        dueAnew(y, 2, "as near, by places", 2, "0-1-2");
        dueAnew(y, 2, "as near, by places", 7, "0-6-7");
        Watched z = Scenes.cells(1, 1, 7);
        z.connect(7, 2, 24);
        z.connect(7, 0, 24);
        dueAnew(z, 2, "as near, by inputs", 7, "0-1-7");
        Checks.due("as near, by inputs", z.way(7, 2), "0-6-7");
    }

    private static void columnsAndRows() {
        Checks.holds(LAYING, "(columns and rows together)");
        // 3 columns against 2 columns and 2 rows: the longer side, and the straight line, say 3.
        Watched x = rivals(3, 14);
        dueAnew(x, 1, "the farthest first", 14, "0-1-2-8-14");
        Checks.due("the nearest then", x.way(3, 0).startsWith("0-6"), true);
        dueAnew(x, 2, "the nearest first", 3, "0-1-2-3");
        Checks.due("the farthest then", x.way(14, 0).startsWith("0-6"), true);
        // 4 columns against 1 column and 2 rows: rows alone say that the second one is farther.
        Watched y = rivals(13, 4);
        dueAnew(y, 1, "the farthest first", 4, "0-1-2-3-4");
        dueAnew(y, 2, "the nearest first", 13, "0-1-7-13");
    }

    private static void endsAndNotWays() {
        Checks.holds(LAYING, "whose ends are the farthest from each other");
        // The wire to the cell 1 goes over three segments, but its ends are nearer than those of the other.
        Watched x = rivals(2, 1);
        Checks.due("ahead of it", x.way(1, 0), "0-6-7-1");
        dueAnew(x, 1, "the farthest first", 2, "0-1-2");
        Checks.due("the nearest then", x.way(1, 0), "0-6-7-1");
        dueAnew(x, 2, "the nearest first", 1, "0-1");
        Checks.due("the farthest then", x.way(2, 0), "0-6-7-1-2");
    }

    private static void nearestAndFarthestEnds() {
        Checks.holds(LAYING, "All wires are taken away, and laid");
        Watched x = Scenes.loaded("0=00/p0/c0/c23;23=00/p7/p0/c23;5=00/p3;18=00/p4");
        for (int order = 0; order < 3; order++) {
            Checks.due("segments by order " + order, x.layAnew(order), 32);
            Checks.due("wires", x.count(1), 8);
            Checks.due("without a segment", x.way(0, 0), "0");
            Checks.due("without a segment, its own", x.way(0, 1), "0");
            Checks.due("without a segment, the last", x.way(23, 0), "23");
            Checks.due("from corner to corner", x.path(0, 2, 8), 0);
            Checks.due("from corner to corner", x.path(23, 1, 8), 23);
            Checks.due("from corner to corner", x.path(5, 0, 8), 5);
            Checks.due("from corner to corner", x.path(18, 0, 8), 18);
        }
    }
}
