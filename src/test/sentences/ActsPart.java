/** The promises of a new object, put(), take(), setTable(), connect(), swap(), layAnew() and set(). */
final class ActsPart {
    private static final String ACT = "This is an act.";
    private static final int UNKNOWN = LookupBoard.UNKNOWN;
    private static final int BAD_VALUE = LookupBoard.BAD_VALUE;
    private static final int CROWDED = LookupBoard.CROWDED;
    private static final int NOT_POSSIBLE = LookupBoard.NOT_POSSIBLE;
    private static final int NONE = LookupBoard.NONE;
    private static final int LEAST = Scenes.LEAST;
    private static final int MOST = Scenes.MOST;

    private ActsPart() {
    }

    static void run() {
        newObject();
        put();
        putRefused();
        take();
        takeRefused();
        setTable();
        setTableRefused();
        connect();
        connectAnswers();
        connectRefused();
        swap();
        swapSources();
        swapLaysAnew();
        swapRefused();
        swapCrowded();
        layAnew();
        layAnewRefused();
        set();
        setHeld();
        setRefused();
    }

    private static void newObject() {
        Checks.holds("Promise 1", "Creates an empty board.");
        Watched x = new Watched();
        for (int place = 0; place < 24; place++) {
            Checks.due("cell(" + place + ", 0)", x.cell(place, 0), UNKNOWN);
            Checks.due("take(" + place + ")", x.take(place), UNKNOWN);
            Checks.due("held", x.held(place, place + 6), place < 18 ? 0 : UNKNOWN);
        }
        int[] counts = {0, 0, 0, 0, 0, 0, 0, 2, 1, 0, 0, BAD_VALUE};
        for (int what = 0; what < counts.length; what++) {
            Checks.due("count(" + what + ")", x.count(what), counts[what]);
        }
        Checks.due("load", x.load(), -100);
        Checks.due("undo", x.undo(), NONE);
        Checks.due("restore", x.restore(), NONE);
        Checks.due("bestOrder", x.bestOrder(), 0);
        // Two objects have nothing in common.
        Watched other = Scenes.SOME.made();
        other.set(0, 4);
        for (int what = 0; what < counts.length; what++) {
            Checks.due("count(" + what + ") behind another object", x.count(what), counts[what]);
            Checks.due("count(" + what + ") of a new one", new Watched().count(what), counts[what]);
        }
        Checks.due("restore behind another object's keep", x.restore(), NONE);
    }

    private static void put() {
        Checks.holds("Promise 2", "Puts a cell onto an empty place, with all inputs at the constant 0.", ACT,
            "- `place`: 0 to 23 - `table`: 0 to 255", "Returns how many cells there are then;");
        Watched x = new Watched();
        for (int place = 23; place >= 0; place--) {
            int table = place == 23 ? 0 : place == 0 ? 255 : place;
            Checks.due("put(" + place + ")", x.put(place, table), 24 - place);
            Checks.due("its table", x.cell(place, 0), table);
            for (int input = 0; input < 3; input++) {
                Checks.due("its source", x.cell(place, 1 + input), 32);
                Checks.due("its path", x.path(place, input, 0), NONE);
            }
        }
        Watched y = Scenes.cells(2, 1, 7);
        for (int input = 0; input < 3; input++) {
            y.connect(7, input, 31);
        }
        y.take(7);
        Checks.due("put where a cell with wires was", y.put(7, 5), 1);
        Checks.due("its sources", y.cell(7, 1) + y.cell(7, 2) + y.cell(7, 3), 96);
        y.connect(7, 1, 24);
        y.swap(7, 8);
        Checks.due("put where a cell was swapped away", y.put(7, 5), 2);
        Checks.due("its sources", y.cell(7, 1) + y.cell(7, 2) + y.cell(7, 3), 96);
        Scenes.NEW.records("put(0, 0)", z -> z.put(0, 0), 1);
        Scenes.NEW.records("put(23, 255)", z -> z.put(23, 255), 1);
        Scenes.SOME.records("put(8, 1)", z -> z.put(8, 1), 4);
    }

    private static void putRefused() {
        Checks.holds("Promise 2", "UNKNOWN; BAD_VALUE; NOT_POSSIBLE if the place is not empty.");
        for (Scene scene : Scenes.ALL) {
            scene.leaves("put(-1, 0)", x -> x.put(-1, 0), UNKNOWN);
            scene.leaves("put(24, 0)", x -> x.put(24, 0), UNKNOWN);
        }
        for (int number : Scenes.EXTREMES) {
            Scenes.SOME.leaves("put(" + number + ", 0)", x -> x.put(number, 0), UNKNOWN);
            Scenes.SOME.leaves("put(0, " + number + ")", x -> x.put(0, number), BAD_VALUE);
            Checks.due("both", new Watched().put(number, number), UNKNOWN);
        }
        Scenes.NEW.leaves("put(23, 256)", x -> x.put(23, 256), BAD_VALUE);
        Scenes.SOME.leaves("put(24, 256)", x -> x.put(24, 256), UNKNOWN);
        Scenes.SOME.leaves("put(-1, -1)", x -> x.put(-1, -1), UNKNOWN);
        Scenes.SOME.leaves("put(7, 256)", x -> x.put(7, 256), BAD_VALUE);
        Scenes.SOME.leaves("put(7, -1)", x -> x.put(7, -1), BAD_VALUE);
        Scenes.SOME.leaves("put(7, 255)", x -> x.put(7, 255), NOT_POSSIBLE);
        Scenes.SOME.leaves("put(7, 150)", x -> x.put(7, 150), NOT_POSSIBLE);
        Scenes.FULL.leaves("put(0, 0)", x -> x.put(0, 0), NOT_POSSIBLE);
        Scenes.FULL.leaves("put(23, 1)", x -> x.put(23, 1), NOT_POSSIBLE);
    }

    private static void take() {
        Checks.holds("Promise 3", "Takes a cell away, with its wires.", ACT, "- `place`: a place with a cell",
            "Returns how many cells there are then;");
        Watched x = Scenes.FULL.made();
        x.connect(23, 0, 24);
        x.connect(23, 1, 23);
        x.connect(23, 2, 31);
        x.connect(0, 0, 31);
        for (int place = 23; place >= 0; place--) {
            Checks.due("wires ahead of take(" + place + ")", x.count(1), place == 23 ? 4 : 1);
            Checks.due("take(" + place + ")", x.take(place), place);
            Checks.due("no cell there", x.cell(place, 0), UNKNOWN);
            Checks.due("no path there", x.path(place, 0, 0), UNKNOWN);
            Checks.due("segments of the others", x.count(2), place == 0 ? 0 : 8);
        }
        for (int place = 0; place < 18; place++) {
            Checks.due("held behind it", x.held(place, place + 6), 0);
        }
        takeBesideOthers();
        Scenes.FULL.records("take(0)", y -> y.take(0), 23);
        Scenes.FULL.records("take(23)", y -> y.take(23), 23);
        Scenes.SOME.records("take(3)", y -> y.take(3), 2);
        Scenes.SOME.records("take(16)", y -> y.take(16), 2);
        Scenes.plan("7=11/c7/p0/p0").records("take(7)", y -> y.take(7), 0);
    }

    /** The wires of the cells at the next places, by their inputs that are the next ones, stay. */
    private static void takeBesideOthers() {
        for (int place : new int[] {0, 7, 8, 22, 23}) {
            Watched x = Scenes.cells(4, 0);
            Watched without = Scenes.cells(4, 0);
            for (int at : new int[] {place - 1, place + 1}) {
                putWithPads(x, at);
                putWithPads(without, at);
            }
            putWithPads(x, place);
            x.take(place);
            for (int what = 0; what < 9; what++) {
                Checks.due("count(" + what + ") behind take(" + place + ")", x.count(what), without.count(what));
            }
            for (int one = 0; one < 24; one++) {
                Checks.due("held", x.held(one, one + 1), without.held(one, one + 1));
                Checks.due("held", x.held(one, one + 6), without.held(one, one + 6));
                Checks.due("segments of " + one, x.cell(one, 6), without.cell(one, 6));
                Checks.due("the last way to " + one, x.way(one, 2), without.way(one, 2));
                Checks.due("the first way to " + one, x.way(one, 0), without.way(one, 0));
            }
        }
    }

    private static void putWithPads(Watched x, int place) {
        x.put(place, 1);
        x.connect(place, 0, 29);
        x.connect(place, 1, 30);
        x.connect(place, 2, 25);
    }

    private static void takeRefused() {
        Checks.holds("Promise 3", "UNKNOWN; NOT_POSSIBLE if another cell has it as a source.");
        for (Scene scene : Scenes.ALL) {
            scene.leaves("take(-1)", x -> x.take(-1), UNKNOWN);
            scene.leaves("take(24)", x -> x.take(24), UNKNOWN);
        }
        for (int number : Scenes.EXTREMES) {
            Scenes.SOME.leaves("take(" + number + ")", x -> x.take(number), UNKNOWN);
        }
        Scenes.NEW.leaves("take(0)", x -> x.take(0), UNKNOWN);
        Scenes.NEW.leaves("take(23)", x -> x.take(23), UNKNOWN);
        Scenes.SOME.leaves("take(8)", x -> x.take(8), UNKNOWN);
        Scenes.SOME.leaves("take(7)", x -> x.take(7), NOT_POSSIBLE);
        for (int input = 0; input < 3; input++) {
            int at = input;
            new Scene("used by the input " + input, x -> {
                x.load("0=00;23=00");
                x.connect(23, at, 0);
                x.connect(0, at, 0);
            }).leaves("take(0)", x -> x.take(0), NOT_POSSIBLE);
        }
    }

    private static void setTable() {
        Checks.holds("Promise 4", "Changes a table.", ACT,
            "- `place`: a place with a cell - `table`: 0 to 255", "Returns the previous one;");
        Watched x = Scenes.cells(2, 1, 5, 6);
        for (int table = 1; table < 256; table++) {
            Checks.due("setTable(5, " + table + ")", x.setTable(5, table), table - 1);
        }
        Checks.due("the last one", x.cell(5, 0), 255);
        Checks.due("setTable(5, 0)", x.setTable(5, 0), 255);
        Checks.due("the other cell's", x.cell(6, 0), 0);
        Scenes.SOME.records("setTable(7, 0)", y -> y.setTable(7, 0), 150);
        Scenes.SOME.records("setTable(7, 255)", y -> y.setTable(7, 255), 150);
        Scenes.FULL.records("setTable(23, 0)", y -> y.setTable(23, 0), 23);
        Scenes.FULL.records("setTable(0, 255)", y -> y.setTable(0, 255), 0);
    }

    private static void setTableRefused() {
        Checks.holds("Promise 4", "UNKNOWN; BAD_VALUE; NONE if it is so already.");
        for (Scene scene : Scenes.ALL) {
            scene.leaves("setTable(-1, 0)", x -> x.setTable(-1, 0), UNKNOWN);
            scene.leaves("setTable(24, 0)", x -> x.setTable(24, 0), UNKNOWN);
        }
        for (int number : Scenes.EXTREMES) {
            Scenes.SOME.leaves("setTable(" + number + ", 0)", x -> x.setTable(number, 0), UNKNOWN);
            Scenes.SOME.leaves("setTable(7, " + number + ")", x -> x.setTable(7, number), BAD_VALUE);
        }
        Scenes.NEW.leaves("setTable(0, 0)", x -> x.setTable(0, 0), UNKNOWN);
        Scenes.SOME.leaves("setTable(8, 0)", x -> x.setTable(8, 0), UNKNOWN);
        Scenes.SOME.leaves("setTable(8, 256)", x -> x.setTable(8, 256), UNKNOWN);
        Scenes.SOME.leaves("setTable(24, -1)", x -> x.setTable(24, -1), UNKNOWN);
        Scenes.SOME.leaves("setTable(7, 150)", x -> x.setTable(7, 150), NONE);
        Scenes.FULL.leaves("setTable(0, 0)", x -> x.setTable(0, 0), NONE);
        Scenes.FULL.leaves("setTable(23, 23)", x -> x.setTable(23, 23), NONE);
        Scenes.plan("4=ff").leaves("setTable(4, 255)", x -> x.setTable(4, 255), NONE);
    }

    private static void connect() {
        Checks.holds("Promise 5", "Gives an input a source; the wire that it had is taken away first.", ACT,
            "- `place`: a place with a cell - `input`: 0 to 2 - `source`: 0 to 33");
        // Its own wire holds the only way: it is free for the new one, and for those behind it.
        Watched x = Scenes.cells(1, 1, 0, 1, 6);
        Checks.due("to the cell 1", x.connect(0, 0, 1), 1);
        Checks.due("to the cell 6", x.connect(0, 1, 6), 1);
        Checks.due("another one", x.connect(0, 2, 1), CROWDED);
        Checks.due("over its own segment", x.connect(0, 0, 31), 8);
        Checks.due("its way", x.path(0, 0, 7), 1);
        Checks.due("to a pad at its own junction", x.connect(0, 0, 24), 0);
        Checks.due("the segment is free", x.held(0, 1), 0);
        Checks.due("another one now", x.connect(0, 2, 1), 1);
        Checks.due("to a constant", x.connect(0, 2, 33), 0);
        Checks.due("the segment is free again", x.held(0, 1), 0);
        Checks.due("the other stays", x.held(0, 6), 1);
        // The price of its own wire isn't asked for, either.
        Watched y = Scenes.cells(2, 9, 0, 1);
        y.connect(1, 0, 0);
        Checks.due("from the pad there", y.connect(1, 0, 24), 1);
        Checks.due("its way", y.way(1, 0), "0-1");
        for (int input = 0; input < 3; input++) {
            int at = input;
            Scenes.SOME.records("connect(16, input, 24)", z -> z.connect(16, at, 24), 6);
            Scenes.SOME.records("connect(16, input, 16)", z -> z.connect(16, at, 16), 0);
            Scenes.SOME.records("connect(16, input, 33)", z -> z.connect(16, at, 33), 0);
        }
        Scenes.FULL.records("connect(0, 0, 0)", z -> z.connect(0, 0, 0), 0);
        Scenes.FULL.records("connect(23, 2, 0)", z -> z.connect(23, 2, 0), 8);
        Scenes.FULL.records("connect(0, 2, 23)", z -> z.connect(0, 2, 23), 8);
        Scenes.FULL.records("connect(23, 0, 33)", z -> z.connect(23, 0, 33), 0);
    }

    private static void connectAnswers() {
        Checks.holds("Promise 5", "Returns how many segments its wire has then;");
        Watched x = Scenes.cells(1, 1, 0, 1, 2, 3);
        Checks.due("one", x.connect(1, 0, 0), 1);
        Checks.due("a way round", x.connect(1, 1, 0), 3);
        Checks.due("none", x.connect(1, 2, 1), 0);
        Checks.due("no wire", x.connect(1, 1, 32), 0);
        Checks.due("a longer way round", x.connect(2, 0, 24), 4);
        Checks.due("its way", x.way(2, 0), "0-6-7-1-2");
        Checks.due("of one wire and not of all", x.connect(3, 0, 2), 1);
        // A wire may have far more segments than its ends lie apart.
        Watched y = Scenes.cells(1, 1, 0, 1, 6, 7, 8, 12, 13, 14, 18, 19, 20, 2);
        y.connect(1, 0, 0);
        y.connect(7, 0, 6);
        y.connect(13, 0, 12);
        y.connect(1, 1, 7);
        y.connect(13, 1, 19);
        y.connect(7, 1, 13);
        Checks.due("round and round", y.connect(1, 2, 24), 9);
        Checks.due("its way", y.way(1, 2), "0-6-12-18-19-20-14-8-2-1");
    }

    private static void connectRefused() {
        Checks.holds("Promise 5", "UNKNOWN (place, input, source, or no cell stands there); NONE if it is so already; "
            + "CROWDED.");
        for (Scene scene : Scenes.ALL) {
            scene.leaves("connect(-1, 0, 33)", x -> x.connect(-1, 0, 33), UNKNOWN);
            scene.leaves("connect(24, 0, 33)", x -> x.connect(24, 0, 33), UNKNOWN);
            scene.leaves("connect(7, -1, 33)", x -> x.connect(7, -1, 33), UNKNOWN);
            scene.leaves("connect(7, 3, 33)", x -> x.connect(7, 3, 33), UNKNOWN);
            scene.leaves("connect(7, 0, -1)", x -> x.connect(7, 0, -1), UNKNOWN);
            scene.leaves("connect(7, 0, 34)", x -> x.connect(7, 0, 34), UNKNOWN);
        }
        for (int number : Scenes.EXTREMES) {
            Scenes.SOME.leaves("connect, the place " + number, x -> x.connect(number, 0, 33), UNKNOWN);
            Scenes.SOME.leaves("connect, the input " + number, x -> x.connect(7, number, 33), UNKNOWN);
            Scenes.SOME.leaves("connect, the source " + number, x -> x.connect(7, 0, number), UNKNOWN);
            Scenes.SOME.leaves("connect, all " + number, x -> x.connect(number, number, number), UNKNOWN);
        }
        Scenes.SOME.leaves("connect(8, 0, 33)", x -> x.connect(8, 0, 33), UNKNOWN);
        Scenes.SOME.leaves("connect(7, 0, 8)", x -> x.connect(7, 0, 8), UNKNOWN);
        Scenes.SOME.leaves("connect(8, 0, 8)", x -> x.connect(8, 0, 8), UNKNOWN);
        Scenes.SOME.leaves("connect(23, 2, 32)", x -> x.connect(23, 2, 32), UNKNOWN);
        int[] sources = {24, 25, 33};
        for (int input = 0; input < 3; input++) {
            int at = input;
            Scenes.SOME.leaves("connect, so already", x -> x.connect(7, at, sources[at]), NONE);
        }
        Scenes.SOME.leaves("connect(3, 0, 3)", x -> x.connect(3, 0, 3), NONE);
        Scenes.SOME.leaves("connect(3, 2, 32)", x -> x.connect(3, 2, 32), NONE);
        Scenes.FULL.leaves("connect(23, 2, 32)", x -> x.connect(23, 2, 32), NONE);
        Scenes.CROWDED_IF_ANEW.leaves("connect(1, 0, 7)", x -> x.connect(1, 0, 24), CROWDED);
        Scenes.CROWDED_IF_ANEW.leaves("connect(7, 0, 24)", x -> x.connect(7, 0, 24), NONE);
        Scenes.CROWDED_IF_ANEW.leaves("connect(1, 3, 24)", x -> x.connect(1, 3, 24), UNKNOWN);
        Scenes.CROWDED_IF_ANEW.leaves("connect(0, 0, 24)", x -> x.connect(0, 0, 24), UNKNOWN);
        // The wire that the input had is there again, if the new one finds no path.
        Scene again = new Scene("a wire that would be taken away first", x -> {
            x.set(0, 1);
            x.load("0=00/p1/c1;1=00;2=00/p7");
        });
        again.leaves("connect(2, 0, 0)", x -> x.connect(2, 0, 0), CROWDED);
    }

    private static void swap() {
        Checks.holds("Promise 6", "Lets two places change what stands there;", ACT,
            "- `one`: 0 to 23 - `other`: 0 to 23", "Returns how many segments all wires have then;");
        Watched x = Scenes.loaded("0=96/p1;23=0f/1/p7");
        Checks.due("both with a cell", x.swap(0, 23), 7 + 8);
        Checks.due("the table at 0", x.cell(0, 0), 0x0f);
        Checks.due("the table at 23", x.cell(23, 0), 0x96);
        Checks.due("the sources at 0", x.cell(0, 1) * 10000 + x.cell(0, 2) * 100 + x.cell(0, 3), 333132);
        Checks.due("the sources at 23", x.cell(23, 1) * 10000 + x.cell(23, 2) * 100 + x.cell(23, 3), 253232);
        Checks.due("back, the other way round", x.swap(23, 0), 1);
        Checks.due("the table at 0", x.cell(0, 0), 0x96);
        Checks.due("with an empty one behind", x.swap(0, 6), 0);
        Checks.due("empty now", x.cell(0, 0), UNKNOWN);
        Checks.due("there now", x.cell(6, 0), 0x96);
        Checks.due("with an empty one ahead", x.swap(12, 6), 1);
        Checks.due("empty now", x.cell(6, 0), UNKNOWN);
        Checks.due("there now", x.cell(12, 1), 25);
        Checks.due("cells", x.count(0), 2);
        Checks.due("all of the segments, of other cells too", Scenes.loaded("9=00/p0;23=00/p6;3=00").swap(3, 4), 5);
        Checks.due("no wires", Scenes.loaded("9=00/1").swap(9, 0), 0);
        Scenes.SOME.records("swap(7, 16)", y -> y.swap(7, 16), Scenes.SOME.made().ifSwap(7, 16));
        Scenes.SOME.records("swap(0, 3)", y -> y.swap(0, 3), Scenes.SOME.made().ifSwap(3, 0));
        Scenes.FULL.records("swap(0, 23)", y -> y.swap(0, 23), 0);
        Scenes.plan("3=11;4=11").records("swap(3, 4), alike", y -> y.swap(3, 4), 0);
    }

    private static void swapSources() {
        Checks.holds("Promise 6", "sources go with the cells (each input of any cell that has one of them as its source "
            + "has it at its new place then),");
        Watched x = Scenes.loaded("7=96/c8/c7/p0;8=0f/c7/c8/1;9=00/c7/c8/c9");
        x.swap(7, 8);
        int[][] want = {{7, 8, 7, 33}, {8, 7, 8, 24}, {9, 8, 7, 9}};
        for (int[] cell : want) {
            for (int what = 1; what <= 3; what++) {
                Checks.due("cell(" + cell[0] + ", " + what + ")", x.cell(cell[0], what), cell[what]);
            }
        }
        x.swap(8, 0);
        int[][] moved = {{7, 0, 7, 33}, {0, 7, 0, 24}, {9, 0, 7, 9}};
        for (int[] cell : moved) {
            for (int what = 1; what <= 3; what++) {
                Checks.due("cell(" + cell[0] + ", " + what + ") then", x.cell(cell[0], what), cell[what]);
            }
        }
        // Each input of any cell: the first and the last one of the board, too.
        for (int wire = 0; wire < 72; wire++) {
            int place = wire / 3;
            int source = place == 11 ? 10 : 11;
            Watched z = Scenes.cells(2, 1, place, source);
            z.connect(place, wire % 3, source);
            z.swap(source, 12);
            int now = place == 12 ? source : place;
            Checks.due("the source of " + wire, z.cell(now, 1 + wire % 3), 12);
            z.swap(20, 12);
            Checks.due("the source of " + wire + " then", z.cell(now == 20 ? 12 : now, 1 + wire % 3), 20);
        }
        // Pads stay where they are, and answers don't change.
        Watched y = Scenes.loaded("0=e8/p0/p1/p7;1=96/c0/p2/1");
        int ones = y.ones(1);
        y.swap(0, 23);
        y.swap(1, 0);
        Checks.due("ones behind it", y.ones(0), ones);
        Checks.due("the pad 0", y.path(23, 0, 0), 0);
    }

    private static void swapLaysAnew() {
        Checks.holds("Promise 6", "and all wires are laid anew in the order 0.");
        Watched x = Scenes.cells(1, 1, 1, 2, 20);
        x.connect(2, 0, 24);
        x.connect(1, 0, 24);
        Checks.due("ahead of it", x.way(1, 0), "0-6-7-1");
        Checks.due("a swap elsewhere", x.swap(20, 21), 5);
        Checks.due("by places, the first", x.way(1, 0), "0-1");
        Checks.due("by places, the second", x.way(2, 0), "0-6-7-1-2");
        Checks.due("by the places behind it", x.swap(2, 1), 5);
        Checks.due("the first", x.way(1, 0), "0-1");
        Watched far = Scenes.cells(1, 1, 3, 7, 20);
        far.connect(7, 0, 24);
        far.connect(3, 0, 24);
        Checks.due("ahead of it", far.way(7, 0), "0-1-7");
        far.swap(21, 20);
        Checks.due("the first, though it is farther", far.way(3, 0), "0-1-2-3");
        Checks.due("the second, though it is nearer", far.way(7, 0), "0-6-7");
        Watched y = Scenes.cells(1, 1, 7, 2);
        y.connect(2, 0, 24);
        y.connect(7, 0, 24);
        Checks.due("to a lower place", y.swap(7, 1), 5);
        Checks.due("it is the first then", y.way(1, 0), "0-1");
    }

    private static void swapRefused() {
        Checks.holds("Promise 6", "UNKNOWN; NONE if both are the same, or both are empty;");
        for (Scene scene : Scenes.ALL) {
            scene.leaves("swap(-1, 7)", x -> x.swap(-1, 7), UNKNOWN);
            scene.leaves("swap(7, -1)", x -> x.swap(7, -1), UNKNOWN);
            scene.leaves("swap(24, 7)", x -> x.swap(24, 7), UNKNOWN);
            scene.leaves("swap(7, 24)", x -> x.swap(7, 24), UNKNOWN);
            scene.leaves("swap(24, 24)", x -> x.swap(24, 24), UNKNOWN);
            scene.leaves("swap(-1, -1)", x -> x.swap(-1, -1), UNKNOWN);
        }
        for (int number : Scenes.EXTREMES) {
            Scenes.SOME.leaves("swap(7, " + number + ")", x -> x.swap(7, number), UNKNOWN);
            Scenes.SOME.leaves("swap(" + number + ", 7)", x -> x.swap(number, 7), UNKNOWN);
            Scenes.SOME.leaves("swap, both " + number, x -> x.swap(number, number), UNKNOWN);
        }
        for (int place = 0; place < 24; place++) {
            Checks.due("the same", Scenes.SOME.made().swap(place, place), NONE);
            Checks.due("the same, all with cells", Scenes.FULL.made().swap(place, place), NONE);
            Checks.due("both empty", new Watched().swap(place, 23 - place), NONE);
        }
        Scenes.SOME.leaves("swap(7, 7)", x -> x.swap(7, 7), NONE);
        Scenes.SOME.leaves("swap(8, 8)", x -> x.swap(8, 8), NONE);
        Scenes.SOME.leaves("swap(0, 23)", x -> x.swap(0, 23), NONE);
        Scenes.NEW.leaves("swap(0, 23)", x -> x.swap(0, 23), NONE);
        Scenes.FULL.leaves("swap(23, 23)", x -> x.swap(23, 23), NONE);
    }

    private static void swapCrowded() {
        Checks.holds("Promise 6", "CROWDED if any wire finds no path.");
        Scenes.CROWDED_IF_ANEW.leaves("swap(7, 20)", x -> x.swap(7, 20), CROWDED);
        Scenes.CROWDED_IF_ANEW.leaves("swap(20, 7)", x -> x.swap(20, 7), CROWDED);
        Scenes.CROWDED_IF_ANEW.leaves("swap(24, 7)", x -> x.swap(24, 7), UNKNOWN);
        // Nothing changes places here, so nothing is laid that could be crowded.
        Scenes.CROWDED_IF_ANEW.leaves("swap(7, 7)", x -> x.swap(7, 7), NONE);
        Scenes.CROWDED_IF_ANEW.leaves("swap(20, 21)", x -> x.swap(20, 21), NONE);
        Scene corner = new Scene("a cell that has no room in a corner", x -> {
            x.set(0, 1);
            x.load("7=00/p2/p3/p6");
        });
        for (int place : new int[] {0, 5, 23}) {
            corner.leaves("swap(7, " + place + ")", x -> x.swap(7, place), CROWDED);
        }
        Watched two = Scenes.loaded("7=00/p2/p3/p6");
        Checks.due("with room for two wires", two.swap(7, 0), 2 + 3 + 7);
        Watched fits = Scenes.cells(1, 1, 7);
        fits.load("7=00/p2/p3");
        Checks.due("just as many wires as there is room for", fits.swap(7, 0), 2 + 5);
    }

    private static void layAnew() {
        Checks.holds("Promise 7", "Lays all wires anew.", ACT, "- `order`: 0 to 2",
            "Returns how many segments they have then;");
        for (int order = 0; order < 3; order++) {
            int by = order;
            Checks.due("without a cell", new Watched().layAnew(order), 0);
            Checks.due("without a wire", Scenes.FULL.made().layAnew(order), 0);
            Scenes.NEW.records("layAnew(" + order + ")", x -> x.layAnew(by), 0);
            Scenes.FULL.records("layAnew(" + order + ")", x -> x.layAnew(by), 0);
            Scenes.SOME.records("layAnew(" + order + ")", x -> x.layAnew(by), 13);
        }
        Scene round = new Scene("wires that go round", x -> {
            x.load("1=00;2=00;3=00");
            x.set(0, 1);
            x.connect(1, 0, 24);
            x.connect(1, 1, 24);
            x.connect(1, 0, 32);
        });
        round.records("layAnew(0)", x -> x.layAnew(0), 1);
        round.records("layAnew(1)", x -> x.layAnew(1), 1);
        round.records("layAnew(2)", x -> x.layAnew(2), 1);
        Watched x = round.made();
        x.layAnew(2);
        Checks.due("all segments", x.count(2), 1);
        Checks.due("sources stay", x.cell(1, 2), 24);
    }

    private static void layAnewRefused() {
        Checks.holds("Promise 7", "BAD_VALUE; CROWDED if any finds no path.");
        for (Scene scene : Scenes.ALL) {
            scene.leaves("layAnew(-1)", x -> x.layAnew(-1), BAD_VALUE);
            scene.leaves("layAnew(3)", x -> x.layAnew(3), BAD_VALUE);
            scene.leaves("layAnew(LEAST)", x -> x.layAnew(LEAST), BAD_VALUE);
            scene.leaves("layAnew(MOST)", x -> x.layAnew(MOST), BAD_VALUE);
        }
        for (int order = 0; order < 3; order++) {
            int by = order;
            Scenes.CROWDED_IF_ANEW.leaves("layAnew(" + order + ")", x -> x.layAnew(by), CROWDED);
        }
        // Whether there is a path for all may hang on the order alone.
        for (OrderCase one : OrderCase.ALL) {
            for (int order = 0; order < 3; order++) {
                int by = order;
                if (one.segments[order] < 0) {
                    one.scene.leaves("layAnew(" + order + ")", x -> x.layAnew(by), CROWDED);
                } else {
                    one.scene.records("layAnew(" + order + ")", x -> x.layAnew(by), one.segments[order]);
                }
            }
        }
    }

    private static void set() {
        Checks.holds("Promise 8", "Sets a setting: 0 how many wires a segment holds, 1 what a wire costs that is there. "
            + "Wires that are laid stay.", ACT, "- `which`: 0 or 1 - `value`: in its range",
            "Returns the previous one;");
        Watched x = new Watched();
        int before = 2;
        for (int most : new int[] {1, 2, 3, 4, 3, 2, 1, 4}) {
            Checks.due("set(0, " + most + ")", x.set(0, most), before);
            Checks.due("now", x.count(7), most);
            Checks.due("the other one", x.count(8), 1);
            before = most;
        }
        before = 1;
        for (int price : new int[] {0, 1, 2, 3, 4, 5, 6, 7, 8, 9, 0}) {
            if (price != before) {
                Checks.due("set(1, " + price + ")", x.set(1, price), before);
            }
            Checks.due("now", x.count(8), price);
            Checks.due("the other one", x.count(7), 4);
            before = price;
        }
        Watched y = Scenes.cells(2, 1, 7);
        y.connect(7, 0, 24);
        y.connect(7, 1, 24);
        y.set(1, 0);
        Checks.due("it stays", y.way(7, 1), "0-6-7");
        y.set(0, 1);
        Checks.due("it stays", y.way(7, 1), "0-6-7");
        y.layAnew(0);
        Checks.due("it is laid by the settings", y.way(7, 1), "0-6-7");
        y.set(0, 2);
        y.layAnew(0);
        Checks.due("it is laid by the settings", y.way(7, 1), "0-1-7");
        for (Scene scene : new Scene[] {Scenes.NEW, Scenes.SOME, Scenes.FULL}) {
            scene.records("set(0, 4)", z -> z.set(0, 4), 2);
            scene.records("set(0, 3)", z -> z.set(0, 3), 2);
            scene.records("set(1, 0)", z -> z.set(1, 0), 1);
            scene.records("set(1, 9)", z -> z.set(1, 9), 1);
        }
        Scenes.NEW.records("set(0, 1)", z -> z.set(0, 1), 2);
    }

    private static void setHeld() {
        Checks.holds("Promise 8", "NOT_POSSIBLE if a segment holds more already;");
        for (int most = 1; most <= 4; most++) {
            int wires = most;
            Scene scene = new Scene(most + " wires on one segment", x -> {
                x.load("0=00;1=00;2=00");
                x.set(0, 4);
                x.set(1, 0);
                x.clearText();
                for (int wire = 0; wire < wires; wire++) {
                    x.connect(1 + wire / 3, wire % 3, 24);
                }
                for (int turn = 0; turn < 3; turn++) {
                    x.keep();
                    x.undo();
                    x.restore();
                }
            });
            for (int value = 1; value <= 4; value++) {
                int room = value;
                String call = "set(0, " + value + ")";
                if (value < most) {
                    scene.leaves(call, x -> x.set(0, room), NOT_POSSIBLE);
                } else if (value == 4) {
                    scene.leaves(call, x -> x.set(0, room), NONE);
                } else {
                    scene.records(call, x -> x.set(0, room), 4);
                }
            }
            scene.leaves("set(0, 0)", x -> x.set(0, 0), BAD_VALUE);
        }
        // The last segment of the board counts as the first one does.
        Watched last = Scenes.loaded("22=00/p7/p7");
        Checks.due("the most", last.held(22, 23), 2);
        Checks.due("the last segment of a row", last.set(0, 1), NOT_POSSIBLE);
        Watched down = Scenes.loaded("17=00/p7/p7");
        Checks.due("the last segment of a column", down.set(0, 1), NOT_POSSIBLE);
    }

    private static void setRefused() {
        Checks.holds("Promise 8", "UNKNOWN; BAD_VALUE;", "NONE if it is so already.");
        for (Scene scene : Scenes.ALL) {
            scene.leaves("set(-1, 1)", x -> x.set(-1, 1), UNKNOWN);
            scene.leaves("set(2, 1)", x -> x.set(2, 1), UNKNOWN);
            scene.leaves("set(0, 0)", x -> x.set(0, 0), BAD_VALUE);
            scene.leaves("set(0, 5)", x -> x.set(0, 5), BAD_VALUE);
            scene.leaves("set(1, -1)", x -> x.set(1, -1), BAD_VALUE);
            scene.leaves("set(1, 10)", x -> x.set(1, 10), BAD_VALUE);
            scene.leaves("set(1, 1)", x -> x.set(1, 1), NONE);
        }
        for (int number : Scenes.EXTREMES) {
            Scenes.SOME.leaves("set(" + number + ", 1)", x -> x.set(number, 1), UNKNOWN);
            Scenes.SOME.leaves("set(0, " + number + ")", x -> x.set(0, number), BAD_VALUE);
            Scenes.SOME.leaves("set(1, " + number + ")", x -> x.set(1, number), BAD_VALUE);
            Scenes.SOME.leaves("set, both " + number, x -> x.set(number, number), UNKNOWN);
        }
        Scenes.NEW.leaves("set(0, 2)", x -> x.set(0, 2), NONE);
        Scenes.CROWDED_IF_ANEW.leaves("set(0, 1)", x -> x.set(0, 1), NONE);
        Scenes.SOME.leaves("set(2, 100)", x -> x.set(2, 100), UNKNOWN);
        Scenes.SOME.leaves("set(0, 2)", x -> x.set(0, 2), NONE);
        for (int value = 0; value < 10; value++) {
            Watched x = Scenes.cells(2, value);
            Checks.due("the setting 1 is so already", x.set(1, value), NONE);
            Watched y = Scenes.cells(value, 1);
            Checks.due("the setting 0 is so already", y.set(0, value), value >= 1 && value <= 4 ? NONE : BAD_VALUE);
        }
    }
}
