/** What the terms say of places, cells, sources, junctions and wires. */
final class TermsPart {
    private static final String PLACES = "PLACES, CELLS";
    private static final String WIRES = "JUNCTIONS, WIRES";
    private static final int UNKNOWN = LookupBoard.UNKNOWN;
    private static final int BAD_VALUE = LookupBoard.BAD_VALUE;
    private static final int CROWDED = LookupBoard.CROWDED;
    private static final int NOT_POSSIBLE = LookupBoard.NOT_POSSIBLE;
    private static final int NONE = LookupBoard.NONE;
    private static final int[] PADS = {0, 6, 12, 18, 5, 11, 17, 23};

    private TermsPart() {
    }

    static void run() {
        placeNumbers();
        cellsOfPlaces();
        sourceNumbers();
        padPlaces();
        takenOnlyUnused();
        takenAtTheEnds();
        sourcesOnlyWithCells();
        segments();
        wires();
        noWires();
        mostWires();
        prices();
        pricesAreCounted();
        lowerJunctions();
        goingFromTheSource();
        othersStay();
        longestPath();
        noPathLeft();
    }

    private static void placeNumbers() {
        Checks.holds(PLACES, "The board has 4 rows of 6 places; places are numbered by rows from 0 to 23: "
            + "the place p is in the column p % 6 and the row p / 6.");
        Watched x = new Watched();
        for (int place = 0; place < 24; place++) {
            Checks.due("put at " + place, x.put(place, 1), place + 1);
        }
        Checks.due("put at -1", x.put(-1, 1), UNKNOWN);
        Checks.due("put at 24", x.put(24, 1), UNKNOWN);
        for (int half = 0; half < 2; half++) {
            Watched y = new Watched();
            for (int one = half * 12; one < half * 12 + 12; one++) {
                for (int other = 0; other < 24; other++) {
                    int apart = Math.abs(one / 6 - other / 6) + Math.abs(one % 6 - other % 6);
                    Checks.due("held(" + one + ", " + other + ")", y.held(one, other), apart == 1 ? 0 : UNKNOWN);
                }
            }
        }
    }

    private static void cellsOfPlaces() {
        Checks.holds(PLACES, "A place is empty (at first), or has a cell with a table (0 to 255) and three inputs, "
            + "numbered from 0; an input has a source.");
        Watched x = new Watched();
        for (int place = 0; place < 24; place++) {
            Checks.due("at first cell(" + place + ", 0)", x.cell(place, 0), UNKNOWN);
        }
        Checks.due("put, the least table", x.put(0, 0), 1);
        Checks.due("put, the greatest table", x.put(1, 255), 2);
        Checks.due("the least table", x.cell(0, 0), 0);
        Checks.due("the greatest table", x.cell(1, 0), 255);
        Checks.due("put, below the least table", x.put(2, -1), BAD_VALUE);
        Checks.due("put, above the greatest table", x.put(2, 256), BAD_VALUE);
        for (int input = 0; input < 3; input++) {
            Checks.due("connect input " + input, x.connect(0, input, 33), 0);
            Checks.due("the source of input " + input, x.cell(0, 1 + input), 33);
        }
        Checks.due("connect input -1", x.connect(0, -1, 33), UNKNOWN);
        Checks.due("connect input 3", x.connect(0, 3, 33), UNKNOWN);
    }

    private static void sourceNumbers() {
        Checks.holds(PLACES, "Sources are numbers: 0 to 23 the cell at this place, 24 to 31 the pads 0 to 7, "
            + "32 the constant 0 (at first), 33 the constant 1.");
        Watched first = Scenes.FULL.made();
        for (int place = 0; place < 24; place++) {
            for (int what = 1; what <= 3; what++) {
                Checks.due("at first cell(" + place + ", " + what + ")", first.cell(place, what), 32);
            }
        }
        Watched x = Scenes.FULL.made();
        for (int source = 0; source < 32; source++) {
            int junction = source < 24 ? source : PADS[source - 24];
            int apart = Math.abs(10 / 6 - junction / 6) + Math.abs(10 % 6 - junction % 6);
            Checks.due("connect(10, 1, " + source + ")", x.connect(10, 1, source), apart);
            Checks.due("cell(10, 2)", x.cell(10, 2), source);
            Checks.due("path(10, 1, 0)", x.path(10, 1, 0), junction);
        }
        Checks.due("connect(10, 1, 32)", x.connect(10, 1, 32), 0);
        Checks.due("connect(10, 1, 33)", x.connect(10, 1, 33), 0);
        Checks.due("connect(10, 1, 34)", x.connect(10, 1, 34), UNKNOWN);
        Checks.due("connect(10, 1, -1)", x.connect(10, 1, -1), UNKNOWN);
        Checks.due("cell(10, 2)", x.cell(10, 2), 33);
        // A table of 2 answers what the input 0 is; one of 1 answers the contrary.
        Watched y = Scenes.loaded("9=02;10=02/1;11=02/c10;12=01/c10");
        Checks.due("answer of the constant 0", y.answer(9, 255), 0);
        Checks.due("answer of the constant 1", y.answer(10, 0), 1);
        Checks.due("answer of the cell 10", y.answer(11, 0), 1);
        Checks.due("the contrary of the cell 10", y.answer(12, 0), 0);
        for (int pad = 0; pad < 8; pad++) {
            y.connect(9, 0, 24 + pad);
            for (int bit = 0; bit < 8; bit++) {
                Checks.due("answer of the pad " + pad, y.answer(9, 1 << bit), bit == pad ? 1 : 0);
            }
        }
    }

    private static void padPlaces() {
        Checks.holds(PLACES, "The pad p lies at the junction of the place 6 * (p modulo 4), the pads 4 to 7 at that "
            + "of the place 6 * (p modulo 4) + 5.");
        for (int pad = 0; pad < 8; pad++) {
            Watched x = new Watched();
            x.put(PADS[pad], 0);
            x.put(9, 0);
            Checks.due("segments from the pad " + pad + " to its place", x.connect(PADS[pad], 0, 24 + pad), 0);
            Checks.due("its junction", x.path(PADS[pad], 0, 0), PADS[pad]);
            x.connect(9, 2, 24 + pad);
            Checks.due("its junction, from afar", x.path(9, 2, 0), PADS[pad]);
        }
    }

    private static void takenOnlyUnused() {
        Checks.holds(PLACES, "A cell can only be taken away if no input of another cell has it as its source;");
        // The inputs just ahead of and behind those of the cell itself are another cell's.
        for (int input = 0; input < 3; input++) {
            for (int user : new int[] {0, 6, 8, 22, 23}) {
                Watched x = Scenes.cells(2, 1, 7, user);
                x.connect(user, input, 7);
                Checks.due("take(7), used by " + user + "/" + input, x.take(7), NOT_POSSIBLE);
                x.connect(7, input, 7);
                Checks.due("take(7), used by itself, too", x.take(7), NOT_POSSIBLE);
                x.connect(user, input, 32);
                Checks.due("take(7), used by itself alone", x.take(7), 1);
            }
        }
    }

    private static void takenAtTheEnds() {
        Checks.holds(PLACES, "if no input of another cell has it as its source;");
        int[][] pairs = {{0, 1}, {1, 0}, {23, 22}, {22, 23}, {0, 23}, {23, 0}};
        for (int[] pair : pairs) {
            for (int input = 0; input < 3; input++) {
                Watched x = Scenes.cells(2, 1, pair);
                x.connect(pair[1], input, pair[0]);
                Checks.due("take(" + pair[0] + "), used by " + pair[1] + "/" + input, x.take(pair[0]), NOT_POSSIBLE);
                Checks.due("take(" + pair[1] + ")", x.take(pair[1]), 1);
                Checks.due("take(" + pair[0] + ")", x.take(pair[0]), 0);
            }
        }
    }

    private static void sourcesOnlyWithCells() {
        Checks.holds(PLACES, "an input can only have a place as its source at which a cell stands (its own one, too).");
        Watched x = Scenes.cells(2, 1, 0, 7);
        for (int source = 0; source < 24; source++) {
            int want = source == 0 ? 2 : source == 7 ? 0 : UNKNOWN;
            Checks.due("connect(7, 1, " + source + ")", x.connect(7, 1, source), want);
        }
        Checks.due("take(0)", x.take(0), 1);
        Checks.due("connect to a cell that was taken", x.connect(7, 1, 0), UNKNOWN);
        Checks.due("its own one is kept", x.cell(7, 2), 7);
    }

    private static void segments() {
        Checks.holds(WIRES, "At each place there is a junction; segments go between junctions that lie side by side "
            + "in a row or a column.");
        // A wire from corner to corner goes over side and side alone, and not from row to row.
        for (int[] ends : new int[][] {{0, 23}, {23, 0}, {5, 18}, {18, 5}, {5, 6}, {12, 11}, {17, 18}}) {
            Watched x = Scenes.cells(2, 1, ends);
            int apart = Math.abs(ends[0] / 6 - ends[1] / 6) + Math.abs(ends[0] % 6 - ends[1] % 6);
            Checks.due("segments from " + ends[0] + " to " + ends[1], x.connect(ends[1], 0, ends[0]), apart);
            for (int step = 0; step < apart; step++) {
                int from = x.path(ends[1], 0, step);
                int to = x.path(ends[1], 0, step + 1);
                Checks.due("held(" + from + ", " + to + ")", x.held(from, to), 1);
                Checks.due("held(" + to + ", " + from + ")", x.held(to, from), 1);
            }
        }
    }

    private static void wires() {
        Checks.holds(WIRES, "An input whose source is a cell or a pad has a wire: a path from the junction of the "
            + "source to that of its cell (without any segment, if both are the same).");
        Watched x = Scenes.cells(2, 1, 0, 23);
        Checks.due("connect to a pad", x.connect(23, 0, 24), 8);
        Checks.due("it starts at the source", x.path(23, 0, 0), 0);
        Checks.due("it ends at its cell", x.path(23, 0, 8), 23);
        Checks.due("it has no more", x.path(23, 0, 9), NONE);
        Checks.due("connect to a cell", x.connect(0, 1, 23), 8);
        Checks.due("it starts at the source", x.path(0, 1, 0), 23);
        Checks.due("it ends at its cell", x.path(0, 1, 8), 0);
        Checks.due("connect to its own cell", x.connect(0, 2, 0), 0);
        Checks.due("its way", x.way(0, 2), "0");
        Checks.due("connect to a pad at its own junction", x.connect(0, 0, 24), 0);
        Checks.due("its way", x.way(0, 0), "0");
        Checks.due("wires", x.count(1), 4);
        Checks.due("their segments", x.count(2), 16);
    }

    private static void noWires() {
        Checks.holds(WIRES, "Constants have no wire.");
        Watched x = Scenes.loaded("0=00/0/1/p0");
        Checks.due("path of the constant 0", x.path(0, 0, 0), NONE);
        Checks.due("path of the constant 1", x.path(0, 1, 0), NONE);
        Checks.due("wires", x.count(1), 1);
        x.connect(0, 2, 33);
        Checks.due("path of a constant behind a pad", x.path(0, 2, 0), NONE);
        Checks.due("wires", x.count(1), 0);
    }

    private static void mostWires() {
        Checks.holds(WIRES, "A segment holds at most as many wires as the setting 0 tells (1 to 4; 2 at first).");
        Checks.due("at first", new Watched().count(7), 2);
        for (int most = 1; most <= 4; most++) {
            Watched x = Scenes.cells(most, 0, 21, 22, 23);
            Checks.due("the setting 0", x.count(7), most);
            // Two segments leave the junction of the pad 0.
            for (int wire = 0; wire < 2 * most; wire++) {
                Checks.dueNotBelow("wire " + wire + " at " + most, x.connect(21 + wire / 3, wire % 3, 24), 6);
            }
            Checks.due("one to the right", x.held(0, 1), most);
            Checks.due("one down", x.held(0, 6), most);
            Checks.due("the most", x.count(4), most);
            Checks.due("one more", x.connect(21 + 2 * most / 3, 2 * most % 3, 24), CROWDED);
        }
        Watched x = new Watched();
        Checks.due("set(0, 0)", x.set(0, 0), BAD_VALUE);
        Checks.due("set(0, 5)", x.set(0, 5), BAD_VALUE);
        Watched first = Scenes.loaded("23=00/p0/p0/p0;22=00/p0");
        Checks.due("at first, one to the right", first.held(0, 1), 2);
        Checks.due("at first, one down", first.held(0, 6), 2);
        Checks.due("at first, one more", first.connect(22, 1, 24), CROWDED);
    }

    private static void prices() {
        Checks.holds(WIRES, "To lay a wire: of all paths along segments that hold fewer wires than they can, the one "
            + "with the least cost; a segment costs 1 and, for each wire that it holds already, the setting 1 "
            + "(0 to 9; 1 at first).");
        Checks.due("at first", new Watched().count(8), 1);
        Checks.due("set(1, -1)", new Watched().set(1, -1), BAD_VALUE);
        Checks.due("set(1, 10)", new Watched().set(1, 10), BAD_VALUE);
        // The way round costs 3. As dear as it, the lower one of both goes: to the right.
        for (int price = 0; price <= 9; price++) {
            Watched x = Scenes.cells(4, price, 0, 1, 6);
            x.connect(1, 0, 0);
            x.connect(1, 1, 0);
            Checks.due("the second one, at " + price, x.way(1, 1), 1 + price <= 3 ? "0-1" : "0-6-7-1");
            Watched y = Scenes.cells(4, price, 0, 1, 6);
            y.connect(6, 0, 0);
            y.connect(6, 1, 0);
            Checks.due("the second one down, at " + price, y.way(6, 1), 1 + price < 3 ? "0-6" : "0-1-7-6");
        }
        Watched first = Scenes.loaded("0=00;1=00/c0/c0/c0");
        Checks.due("at first, the second one", first.way(1, 1), "0-1");
        Checks.due("at first, the third one, where two are the most", first.way(1, 2), "0-6-7-1");
    }

    private static void pricesAreCounted() {
        Checks.holds(WIRES, "for each wire that it holds already");
        Watched x = Scenes.cells(4, 1, 0, 1);
        for (int input = 0; input < 3; input++) {
            x.connect(1, input, 0);
            Checks.due("as dear as the way round at most", x.way(1, input), "0-1");
        }
        // Wires of both ways are on the same segment: it costs 4 now, the way round 3.
        x.connect(0, 0, 1);
        Checks.due("dearer than the way round", x.way(0, 0), "1-7-6-0");
        x.connect(1, 0, 33);
        x.connect(0, 1, 1);
        Checks.due("as dear as the way round again", x.way(0, 1), "1-0");
        Watched free = Scenes.cells(4, 0, 0, 1);
        for (int input = 0; input < 3; input++) {
            free.connect(1, input, 0);
        }
        free.connect(0, 0, 1);
        Checks.due("the fourth one without a price", free.way(0, 0), "1-0");
        free.connect(0, 1, 1);
        Checks.due("the fifth one", free.way(0, 1), "1-7-6-0");
        // Each segment's price is added: two with a wire each are dearer by two.
        Watched sum = Scenes.cells(2, 1, 6, 7, 8);
        sum.connect(7, 0, 6);
        sum.connect(8, 0, 7);
        sum.connect(8, 1, 6);
        Checks.due("2 + 2 and 4 segments round: the lower one", sum.way(8, 1), "6-0-1-2-8");
        Watched less = Scenes.cells(2, 1, 6, 7, 8);
        less.connect(8, 0, 7);
        less.connect(8, 1, 6);
        Checks.due("1 + 2", less.way(8, 1), "6-7-8");
    }

    private static void lowerJunctions() {
        Checks.holds(WIRES, "Of several that cost as much, the one whose junctions have the lower number at the first "
            + "place at which they differ, going from the source.");
        int[][] ends = {{0, 7}, {7, 0}, {1, 6}, {6, 1}, {0, 23}, {23, 0}, {5, 18}, {18, 5}, {8, 15}, {15, 8}, {9, 14}};
        String[] ways = {"0-1-7", "7-1-0", "1-0-6", "6-0-1", "0-1-2-3-4-5-11-17-23", "23-17-11-5-4-3-2-1-0",
            "5-4-3-2-1-0-6-12-18", "18-12-6-0-1-2-3-4-5", "8-9-15", "15-9-8", "9-8-14"};
        for (int index = 0; index < ends.length; index++) {
            Watched x = Scenes.cells(2, 1, ends[index]);
            x.connect(ends[index][1], 0, ends[index][0]);
            Checks.due("the way", x.way(ends[index][1], 0), ways[index]);
        }
        // Straight on is full: the ways round it are as long, above and below, left and right.
        Watched x = Scenes.cells(1, 1, 7, 8);
        x.connect(8, 0, 7);
        x.connect(8, 1, 7);
        Checks.due("above", x.way(8, 1), "7-1-2-8");
        x.connect(8, 2, 7);
        Checks.due("below", x.way(8, 2), "7-13-14-8");
        Watched y = Scenes.cells(1, 1, 7, 13);
        y.connect(13, 0, 7);
        y.connect(13, 1, 7);
        Checks.due("left", y.way(13, 1), "7-6-12-13");
        y.connect(13, 2, 7);
        Checks.due("right", y.way(13, 2), "7-8-14-13");
    }

    private static void goingFromTheSource() {
        Checks.holds(WIRES, "going from the source");
        // Two ways cost 5: 0-1-2-3-9-8, which is lower at its start, and 0-6-7-8, which is lower at its end.
        Watched x = Scenes.cells(2, 1, 0, 1, 2, 6, 7, 8);
        x.connect(7, 0, 1);
        x.connect(7, 1, 1);
        x.connect(8, 0, 2);
        x.connect(8, 1, 2);
        x.connect(7, 2, 6);
        x.connect(6, 0, 24);
        Checks.due("full", x.held(1, 7), 2);
        Checks.due("full", x.held(2, 8), 2);
        Checks.due("one", x.held(0, 6), 1);
        Checks.due("one", x.held(6, 7), 1);
        x.connect(8, 2, 0);
        Checks.due("the way", x.way(8, 2), "0-1-2-3-9-8");
    }

    private static void othersStay() {
        Checks.holds(WIRES, "A wire is laid as its input gets a source; the others stay as they are.");
        Watched x = Scenes.cells(1, 1, 0, 1, 3);
        x.connect(1, 0, 0);
        x.connect(1, 1, 0);
        Checks.due("round", x.way(1, 1), "0-6-7-1");
        x.connect(1, 0, 33);
        Checks.due("still round", x.way(1, 1), "0-6-7-1");
        Checks.due("the straight one is free", x.held(0, 1), 0);
        x.connect(3, 0, 24);
        Checks.due("another way", x.way(3, 0), "0-1-2-3");
        Checks.due("still round", x.way(1, 1), "0-6-7-1");
        x.take(3);
        Checks.due("still round", x.way(1, 1), "0-6-7-1");
        x.put(3, 0);
        x.set(0, 4);
        x.set(1, 0);
        x.setTable(1, 77);
        Checks.due("still round", x.way(1, 1), "0-6-7-1");
        x.connect(1, 1, 24);
        Checks.due("laid as its input gets a source", x.way(1, 1), "0-1");
    }

    private static void longestPath() {
        Checks.holds(WIRES, "a path from the junction of the source to that of its cell");
        // Each segment between two rows but one has its wire: only the way along all rows is left.
        Watched x = Scenes.cells(1, 1);
        Scenes.putEverywhere(x);
        for (int place = 0; place < 18; place++) {
            int turn = new int[] {5, 6, 17}[place / 6];
            if (place != turn) {
                Checks.due("a wire down from " + place, x.connect(place + 6, 0, place), 1);
            }
        }
        Checks.due("over all junctions", x.connect(18, 1, 0), 23);
        for (int step = 0; step < 24; step++) {
            int row = step / 6;
            int junction = row % 2 == 0 ? step : row * 6 + 5 - step % 6;
            Checks.due("the step " + step, x.path(18, 1, step), junction);
        }
        Checks.due("no more", x.path(18, 1, 24), NONE);
        Checks.due("full ones", x.count(3), 38);
        Checks.due("segments", x.count(2), 38);
        Checks.due("the cell's", x.cell(18, 6), 24);
        Checks.due("no way is left", x.connect(0, 0, 1), CROWDED);
        Checks.due("none is needed", x.connect(0, 0, 24), 0);
        Checks.due("its own way back", x.connect(18, 1, 31), 5);
        Checks.due("undo", x.undo(), 3);
        Checks.due("as it was", x.path(18, 1, 22), 19);
        Checks.due("full ones again", x.count(3), 38);
    }

    private static void noPathLeft() {
        Checks.holds(WIRES, "If no path is left, it is not possible.");
        Scene cutOff = new Scene("a corner without a free segment", x -> {
            x.set(0, 1);
            x.load("0=00/p1/p1;1=00");
        });
        cutOff.leaves("connect into it", x -> x.connect(0, 2, 1), CROWDED);
        cutOff.leaves("connect out of it", x -> x.connect(1, 0, 0), CROWDED);
        cutOff.leaves("connect from a pad out of it", x -> x.connect(1, 0, 24), CROWDED);
        cutOff.leaves("connect, so already", x -> x.connect(0, 1, 25), NONE);
        cutOff.records("connect within it", x -> x.connect(0, 2, 24), 0);
        cutOff.records("connect in place of one", x -> x.connect(0, 1, 1), 1);
        cutOff.records("connect elsewhere", x -> x.connect(1, 0, 26), 5);
    }
}
