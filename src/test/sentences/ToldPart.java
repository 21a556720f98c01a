/** The promises of what is told: cell(), path(), held(), answer(), ones(), ifSwap(), and the best ones. */
final class ToldPart {
    private static final String PLACE = "- `place`: a place with a cell";
    private static final int UNKNOWN = LookupBoard.UNKNOWN;
    private static final int BAD_VALUE = LookupBoard.BAD_VALUE;
    private static final int CROWDED = LookupBoard.CROWDED;
    private static final int NONE = LookupBoard.NONE;
    private static final int LEAST = Scenes.LEAST;
    private static final int MOST = Scenes.MOST;

    private ToldPart() {
    }

    static void run() {
        cell();
        cellRefused();
        path();
        pathRefused();
        held();
        heldRefused();
        answer();
        answerRefused();
        ones();
        onesRefused();
        ifSwap();
        ifSwapRefused();
        bestSwap();
        bestSwapOfSeveral();
        bestSwapIsStrict();
        bestSwapAsTold();
        bestOrder();
        count();
        countFull();
        countDepths();
        countRefused();
    }

    private static void cell() {
        Checks.holds("Promise 15", PLACE, "- `what`: 0 for its table, 1 to 3 for the sources of its inputs, 4 for its "
            + "depth (NONE if it answers nothing), 5 for how many inputs have it as a source, 6 for the segments of "
            + "its wires together");
        Watched x = Scenes.cells(4, 0);
        x.load("7=ff/p0/c16/1;16=00/c7/c7/c7;9=8d/c9/c7/0;10=01/p0/p7/c7");
        int[][] want = {{7, 255, 24, 16, 33, NONE, 5, 2 + 4}, {16, 0, 7, 7, 7, NONE, 1, 12},
            {9, 141, 9, 7, 32, NONE, 1, 2}, {10, 1, 24, 31, 7, NONE, 0, 5 + 3 + 3}};
        for (int[] row : want) {
            for (int what = 0; what <= 6; what++) {
                Checks.due("cell(" + row[0] + ", " + what + ")", x.cell(row[0], what), row[1 + what]);
            }
        }
        // Three cells side by side: the wires of each are its own.
        Watched beside = Scenes.loaded("7=00/p0/p0/p1;8=00/p4/p0/p5;9=00/p0/p1/p6");
        for (int place = 7; place <= 9; place++) {
            int segments = 0;
            for (int input = 0; input < 3; input++) {
                segments += beside.way(place, input).split("-").length - 1;
            }
            Checks.due("segments of " + place, beside.cell(place, 6), segments);
        }
        x.connect(7, 1, 32);
        Checks.due("a depth", x.cell(7, 4), 1);
        Checks.due("a depth behind it", x.cell(16, 4), 2);
        Checks.due("on itself still", x.cell(9, 4), NONE);
        Checks.due("used no more", x.cell(16, 5), 0);
        Checks.due("no wire of its own", Scenes.loaded("9=00;10=00/c9").cell(9, 6), 0);
        Watched y = Scenes.loaded("9=00/c9/c9/c9");
        Checks.due("its own inputs count", y.cell(9, 5), 3);
        Checks.due("without a segment", y.cell(9, 6), 0);
        Watched full = Scenes.FULL.made();
        full.set(0, 4);
        full.set(1, 0);
        int used = 0;
        for (int place = 0; place < 24; place++) {
            for (int input = 0; input < 3; input++) {
                used += full.connect(place, input, 9) >= 0 ? 1 : 0;
            }
        }
        Checks.due("used by all that find a path", full.cell(9, 5), used);
        Checks.due("sixteen, and three of its own", used, 19);
    }

    private static void cellRefused() {
        Checks.holds("Promise 15", "Returns the number; UNKNOWN; BAD_VALUE.");
        for (Scene scene : Scenes.ALL) {
            scene.leaves("cell(-1, 0)", x -> x.cell(-1, 0), UNKNOWN);
            scene.leaves("cell(24, 0)", x -> x.cell(24, 0), UNKNOWN);
        }
        for (int number : Scenes.EXTREMES) {
            Scenes.SOME.leaves("cell(" + number + ", 0)", x -> x.cell(number, 0), UNKNOWN);
            Scenes.SOME.leaves("cell(7, " + number + ")", x -> x.cell(7, number), BAD_VALUE);
            Checks.due("both", Scenes.SOME.made().cell(number, number), UNKNOWN);
        }
        Scenes.SOME.leaves("cell(7, -1)", x -> x.cell(7, -1), BAD_VALUE);
        Scenes.SOME.leaves("cell(7, 7)", x -> x.cell(7, 7), BAD_VALUE);
        Scenes.SOME.leaves("cell(3, 7)", x -> x.cell(3, 7), BAD_VALUE);
        Scenes.SOME.leaves("cell(8, 0)", x -> x.cell(8, 0), UNKNOWN);
        Scenes.SOME.leaves("cell(8, 7)", x -> x.cell(8, 7), UNKNOWN);
        Scenes.NEW.leaves("cell(0, 0)", x -> x.cell(0, 0), UNKNOWN);
    }

    private static void path() {
        Checks.holds("Promise 16", "Tells the path of a wire.", "- `place`: a place with a cell - `input`: 0 to 2 - "
            + "`step`: 0 for the junction of the source, 1 for the next one, and so on",
            "Returns the junction, as a place;", "NONE if the input has no wire, or the path not so many.");
        int[] junctions = {0, 1, 2, 3, 4, 5, 11, 17, 23};
        for (int input = 0; input < 3; input++) {
            Watched x = Scenes.cells(2, 1, 23);
            x.connect(23, input, 24);
            for (int step = 0; step < junctions.length; step++) {
                Checks.due("the step " + step, x.path(23, input, step), junctions[step]);
            }
            for (int step : new int[] {9, 10, 23, 24, 25, 47, 48, 72, MOST - 1, MOST}) {
                Checks.due("the step " + step, x.path(23, input, step), NONE);
            }
            for (int other = 0; other < 3; other++) {
                Checks.due("the others have no wire", x.path(23, other, 0), other == input ? 0 : NONE);
            }
        }
        Watched own = Scenes.loaded("8=00/c8/p0");
        Checks.due("its own source", own.path(8, 0, 0), 8);
        Checks.due("no more", own.path(8, 0, 1), NONE);
        Checks.due("the last", own.path(8, 1, 3), 8);
        Checks.due("no more", own.path(8, 1, 4), NONE);
        own.connect(8, 1, 8);
        Checks.due("a shorter one behind a longer one", own.path(8, 1, 1), NONE);
        own.connect(8, 1, 33);
        Checks.due("none behind one", own.path(8, 1, 0), NONE);
    }

    private static void pathRefused() {
        Checks.holds("Promise 16", "UNKNOWN (place, input); BAD_VALUE if step is negative;");
        for (Scene scene : Scenes.ALL) {
            scene.leaves("path(-1, 0, 0)", x -> x.path(-1, 0, 0), UNKNOWN);
            scene.leaves("path(24, 0, 0)", x -> x.path(24, 0, 0), UNKNOWN);
            scene.leaves("path(7, -1, 0)", x -> x.path(7, -1, 0), UNKNOWN);
            scene.leaves("path(7, 3, 0)", x -> x.path(7, 3, 0), UNKNOWN);
        }
        for (int number : Scenes.EXTREMES) {
            Scenes.SOME.leaves("path, the place " + number, x -> x.path(number, 0, 0), UNKNOWN);
            Scenes.SOME.leaves("path, the input " + number, x -> x.path(7, number, 0), UNKNOWN);
            Scenes.SOME.leaves("path, the step " + number, x -> x.path(7, 0, number), number < 0 ? BAD_VALUE : NONE);
            Scenes.SOME.leaves("path, all " + number, x -> x.path(number, number, number), UNKNOWN);
        }
        Scenes.SOME.leaves("path(8, 0, 0)", x -> x.path(8, 0, 0), UNKNOWN);
        Scenes.SOME.leaves("path(8, 0, -1)", x -> x.path(8, 0, -1), UNKNOWN);
        Scenes.SOME.leaves("path(7, 3, -1)", x -> x.path(7, 3, -1), UNKNOWN);
        Scenes.SOME.leaves("path(7, 0, -1)", x -> x.path(7, 0, -1), BAD_VALUE);
        Scenes.SOME.leaves("path(7, 2, -1)", x -> x.path(7, 2, -1), BAD_VALUE);
        Scenes.SOME.leaves("path(7, 2, 0)", x -> x.path(7, 2, 0), NONE);
        Scenes.SOME.leaves("path(7, 0, 3)", x -> x.path(7, 0, 3), NONE);
        Scenes.FULL.leaves("path(23, 2, 0)", x -> x.path(23, 2, 0), NONE);
        Scenes.NEW.leaves("path(0, 0, 0)", x -> x.path(0, 0, 0), UNKNOWN);
    }

    private static void held() {
        Checks.holds("Promise 17", "Tells how many wires a segment holds.",
            "- `one`: 0 to 23 - `other`: a place beside it in its row or column", "Returns how many;");
        // A wire between each two neighbours, there and back: each segment holds two.
        for (int step : new int[] {1, 6}) {
            Watched x = Scenes.FULL.made();
            for (int place = 0; place + step < 24; place++) {
                boolean beside = step == 6 || place % 6 < 5;
                if (beside) {
                    Checks.due("there", x.connect(place, 0, place + step), 1);
                    Checks.due("one", x.held(place, place + step), 1);
                    Checks.due("back", x.connect(place + step, 1, place), 1);
                    Checks.due("two", x.held(place, place + step), 2);
                    Checks.due("two, the other way round", x.held(place + step, place), 2);
                } else {
                    Checks.due("from row to row", x.held(place, place + 1), UNKNOWN);
                }
            }
            Checks.due("full ones", x.count(3), step == 1 ? 20 : 18);
            Checks.due("those of the other kind", x.held(0, step == 1 ? 6 : 1), 0);
        }
        for (int wires = 0; wires <= 4; wires++) {
            Watched x = Scenes.cells(4, 0, 1, 2);
            for (int wire = 0; wire < wires; wire++) {
                x.connect(1 + wire / 3, wire % 3, 24);
            }
            Checks.due("of " + wires, x.held(0, 1), wires);
            Checks.due("elsewhere", x.held(0, 6), 0);
        }
    }

    private static void heldRefused() {
        Checks.holds("Promise 17", "UNKNOWN.");
        int[][] pairs = {{-1, 0}, {0, -1}, {23, 24}, {24, 23}, {18, 24}, {24, 18}, {0, -6}, {-6, 0}, {5, 6}, {6, 5},
            {11, 12}, {12, 11}, {17, 18}, {0, 0}, {7, 7}, {0, 2}, {0, 7}, {1, 6}, {0, 12}, {0, 23}, {23, 0}, {24, 25},
            {-1, -2}, {LEAST, MOST}, {MOST, LEAST}, {LEAST, LEAST + 1}, {MOST, MOST - 1}, {MOST, MOST}, {LEAST, LEAST},
            {MOST, 0}, {0, MOST}, {LEAST, 0}, {0, LEAST}, {MOST - 5, LEAST}};
        for (int[] pair : pairs) {
            Scenes.SOME.leaves("held(" + pair[0] + ", " + pair[1] + ")", x -> x.held(pair[0], pair[1]), UNKNOWN);
            Checks.due("held(" + pair[0] + ", " + pair[1] + ")", Scenes.FULL.made().held(pair[0], pair[1]), UNKNOWN);
        }
    }

    private static void answer() {
        Checks.holds("Promise 18", PLACE, "- `bits`: 0 to 255: the bits at the pads",
            "Returns the bit that it answers;");
        Watched x = Scenes.loaded("7=80/p0/p1/p2;16=80/p3/p4/p5;9=80/p6/p7/c7;10=80/c9/c16/1");
        for (int bits = 0; bits < 256; bits++) {
            Checks.due("all bits of " + bits, x.answer(10, bits), bits == 255 ? 1 : 0);
        }
        Watched y = Scenes.loaded("7=96/p0/p1/p2;16=96/p3/p4/p5;9=96/p6/p7/c7;10=96/c9/c16/0");
        for (int bits = 0; bits < 256; bits++) {
            Checks.due("even or odd, " + bits, y.answer(10, bits), Integer.bitCount(bits) % 2);
        }
        // What was told before for other bits, or of another board, doesn't count.
        Checks.due("again", y.answer(10, 1), 1);
        Checks.due("of another cell", y.answer(7, 8), 0);
        y.setTable(16, 0xff);
        Checks.due("behind a change", y.answer(10, 0), 1);
        y.undo();
        Checks.due("behind undo()", y.answer(10, 0), 0);
    }

    private static void answerRefused() {
        Checks.holds("Promise 18", "UNKNOWN; BAD_VALUE; NONE if it answers nothing.");
        for (Scene scene : Scenes.ALL) {
            scene.leaves("answer(-1, 0)", x -> x.answer(-1, 0), UNKNOWN);
            scene.leaves("answer(24, 0)", x -> x.answer(24, 0), UNKNOWN);
        }
        for (int number : Scenes.EXTREMES) {
            Scenes.SOME.leaves("answer(" + number + ", 0)", x -> x.answer(number, 0), UNKNOWN);
            Scenes.SOME.leaves("answer(7, " + number + ")", x -> x.answer(7, number), BAD_VALUE);
            Scenes.SOME.leaves("answer(3, " + number + ")", x -> x.answer(3, number), BAD_VALUE);
            Checks.due("both", Scenes.SOME.made().answer(number, number), UNKNOWN);
        }
        Scenes.SOME.leaves("answer(7, -1)", x -> x.answer(7, -1), BAD_VALUE);
        Scenes.SOME.leaves("answer(7, 256)", x -> x.answer(7, 256), BAD_VALUE);
        Scenes.SOME.leaves("answer(8, 256)", x -> x.answer(8, 256), UNKNOWN);
        Scenes.SOME.leaves("answer(3, 256)", x -> x.answer(3, 256), BAD_VALUE);
        Scenes.SOME.leaves("answer(3, 0)", x -> x.answer(3, 0), NONE);
        Scenes.SOME.leaves("answer(3, 255)", x -> x.answer(3, 255), NONE);
        Scenes.NEW.leaves("answer(0, 0)", x -> x.answer(0, 0), UNKNOWN);
    }

    private static void ones() {
        Checks.holds("Promise 19", "Tells for how many bits at the pads a cell answers 1.", PLACE,
            "Returns how many, 0 to 256;");
        Watched x = Scenes.loaded("7=80/p0/p1/p2;16=80/p3/p4/p5;9=80/p6/p7/c7;10=80/c9/c16/1;15=7f/c9/c16/1");
        Checks.due("one", x.ones(10), 1);
        Checks.due("all but one", x.ones(15), 255);
        Checks.due("an eighth", x.ones(7), 32);
        Watched y = Scenes.loaded("0=00/p0/p1/p2;1=ff/p0/p1/p2;2=00;3=ff;4=01;5=02;6=02/1;7=02/p0;8=01/p7");
        int[] ones = {0, 256, 0, 256, 256, 0, 256, 128, 128};
        for (int place = 0; place < ones.length; place++) {
            Checks.due("ones(" + place + ")", y.ones(place), ones[place]);
        }
        for (int table = 0; table < 256; table++) {
            Watched z = Scenes.cells(2, 1, 9);
            z.setTable(9, table);
            z.connect(9, 0, 24);
            z.connect(9, 1, 29);
            z.connect(9, 2, 31);
            Checks.due("of the table " + table, z.ones(9), 32 * Integer.bitCount(table));
        }
    }

    private static void onesRefused() {
        Checks.holds("Promise 19", "UNKNOWN; NONE if it answers nothing.");
        for (Scene scene : Scenes.ALL) {
            scene.leaves("ones(-1)", x -> x.ones(-1), UNKNOWN);
            scene.leaves("ones(24)", x -> x.ones(24), UNKNOWN);
        }
        for (int number : Scenes.EXTREMES) {
            Scenes.SOME.leaves("ones(" + number + ")", x -> x.ones(number), UNKNOWN);
        }
        Scenes.SOME.leaves("ones(8)", x -> x.ones(8), UNKNOWN);
        Scenes.SOME.leaves("ones(3)", x -> x.ones(3), NONE);
        Scenes.NEW.leaves("ones(0)", x -> x.ones(0), UNKNOWN);
        Scenes.plan("0=ff/c1;1=00/c0;2=ff/c1").leaves("ones(2)", x -> x.ones(2), NONE);
    }

    private static void ifSwap() {
        Checks.holds("Promise 20", "Tells how many segments all wires would have behind swap().",
            "- `one`: 0 to 23 - `other`: 0 to 23", "Returns how many;");
        Scenes.SOME.leaves("ifSwap(7, 16)", x -> x.ifSwap(7, 16), Scenes.SOME.made().swap(7, 16));
        Scenes.plan("0=96/p1;23=0f/1/p7").leaves("ifSwap(0, 23)", x -> x.ifSwap(0, 23), 15);
        Scenes.plan("0=96/p1;23=0f/1/p7").leaves("ifSwap(23, 0)", x -> x.ifSwap(23, 0), 15);
        Scenes.FULL.leaves("ifSwap(0, 23)", x -> x.ifSwap(0, 23), 0);
        Scene round = new Scene("wires that go round", x -> {
            x.set(0, 1);
            x.load("1=00/c2;2=00;20=00");
            x.connect(1, 1, 24);
            x.connect(1, 2, 24);
            x.connect(1, 1, 32);
        });
        Checks.due("as they lie", round.made().count(2), 4);
        round.leaves("ifSwap(20, 21)", x -> x.ifSwap(20, 21), 2);
        for (Scene scene : Scenes.ALL) {
            for (int one : new int[] {1, 3, 7}) {
                for (int other = 0; other < 24; other++) {
                    String call = "ifSwap(" + one + ", " + other + ")";
                    Checks.due(call, scene.made().ifSwap(one, other), scene.made().swap(one, other));
                    Checks.due(call, scene.made().ifSwap(other, one), scene.made().swap(one, other));
                }
            }
        }
    }

    private static void ifSwapRefused() {
        Checks.holds("Promise 20", "UNKNOWN; NONE if nothing would change by it; CROWDED.");
        for (Scene scene : Scenes.ALL) {
            scene.leaves("ifSwap(-1, 7)", x -> x.ifSwap(-1, 7), UNKNOWN);
            scene.leaves("ifSwap(7, -1)", x -> x.ifSwap(7, -1), UNKNOWN);
            scene.leaves("ifSwap(24, 7)", x -> x.ifSwap(24, 7), UNKNOWN);
            scene.leaves("ifSwap(7, 24)", x -> x.ifSwap(7, 24), UNKNOWN);
            scene.leaves("ifSwap(24, 24)", x -> x.ifSwap(24, 24), UNKNOWN);
        }
        for (int number : Scenes.EXTREMES) {
            Scenes.SOME.leaves("ifSwap(7, " + number + ")", x -> x.ifSwap(7, number), UNKNOWN);
            Scenes.SOME.leaves("ifSwap(" + number + ", 7)", x -> x.ifSwap(number, 7), UNKNOWN);
            Scenes.SOME.leaves("ifSwap, both " + number, x -> x.ifSwap(number, number), UNKNOWN);
        }
        Scenes.SOME.leaves("ifSwap(7, 7)", x -> x.ifSwap(7, 7), NONE);
        Scenes.SOME.leaves("ifSwap(8, 8)", x -> x.ifSwap(8, 8), NONE);
        Scenes.SOME.leaves("ifSwap(0, 23)", x -> x.ifSwap(0, 23), NONE);
        Scenes.NEW.leaves("ifSwap(0, 23)", x -> x.ifSwap(0, 23), NONE);
        Scenes.CROWDED_IF_ANEW.leaves("ifSwap(7, 20)", x -> x.ifSwap(7, 20), CROWDED);
        Scenes.CROWDED_IF_ANEW.leaves("ifSwap(24, 20)", x -> x.ifSwap(24, 20), UNKNOWN);
        Scenes.CROWDED_IF_ANEW.leaves("ifSwap(7, 7)", x -> x.ifSwap(7, 7), NONE);
        Scenes.CROWDED_IF_ANEW.leaves("ifSwap(20, 21)", x -> x.ifSwap(20, 21), NONE);
    }

    private static void bestSwap() {
        Checks.holds("Promise 21", "Finds the place with which a cell had best change, so that all wires have the "
            + "fewest segments,", PLACE, "Returns the other place; UNKNOWN;");
        Scenes.plan("23=00/p0/p0/p0").leaves("bestSwap(23)", x -> x.bestSwap(23), 0);
        Scenes.plan("0=00/p7/p7/p7").leaves("bestSwap(0)", x -> x.bestSwap(0), 23);
        Scenes.plan("0=00;5=00/p0").leaves("bestSwap(5), where a cell stands", x -> x.bestSwap(5), 0);
        Scenes.plan("0=00/p4;5=00/p0").leaves("bestSwap(5), both", x -> x.bestSwap(5), 0);
        Scenes.plan("8=00/p0;23=01/c8/c8").leaves("bestSwap(23)", x -> x.bestSwap(23), 2);
        for (Scene scene : Scenes.ALL) {
            scene.leaves("bestSwap(-1)", x -> x.bestSwap(-1), UNKNOWN);
            scene.leaves("bestSwap(24)", x -> x.bestSwap(24), UNKNOWN);
        }
        for (int number : Scenes.EXTREMES) {
            Scenes.SOME.leaves("bestSwap(" + number + ")", x -> x.bestSwap(number), UNKNOWN);
        }
        Scenes.SOME.leaves("bestSwap(8)", x -> x.bestSwap(8), UNKNOWN);
        Scenes.NEW.leaves("bestSwap(0)", x -> x.bestSwap(0), UNKNOWN);
        Scenes.NEW.leaves("bestSwap(23)", x -> x.bestSwap(23), UNKNOWN);
    }

    private static void bestSwapOfSeveral() {
        Checks.holds("Promise 21", "of several the lowest one.");
        Checks.due("on the way between two pads", Scenes.loaded("9=00/p0/p1").bestSwap(9), 0);
        Checks.due("on the way between two others", Scenes.loaded("0=00/p6/p7").bestSwap(0), 17);
        Checks.due("on a row", Scenes.loaded("23=00/p0/p4").bestSwap(23), 0);
        // As good where the board is higher, and as good again: the lowest one is not the first that is better.
        Checks.due("between all corners", Scenes.loaded("0=00/p3/p7/p7").bestSwap(0), 23);
        Checks.due("with a cell or with none", Scenes.loaded("1=00;0=00/p5").bestSwap(0), 11);
    }

    private static void bestSwapIsStrict() {
        Checks.holds("Promise 21", "NONE if no change has fewer than there are now.");
        Scenes.plan("0=00/p0/p0").leaves("bestSwap(0)", x -> x.bestSwap(0), NONE);
        Scenes.plan("9=00").leaves("bestSwap(9), without wires", x -> x.bestSwap(9), NONE);
        Scenes.plan("0=00/p0/p1").leaves("bestSwap(0), as many elsewhere", x -> x.bestSwap(0), NONE);
        Scenes.plan("6=00/p0/p1").leaves("bestSwap(6), as many elsewhere", x -> x.bestSwap(6), NONE);
        Scenes.FULL.leaves("bestSwap(0)", x -> x.bestSwap(0), NONE);
        // Laid anew where it stands, it had fewer; but that is no other place.
        Scene inPlace = new Scene("a cell that stands best, with a wire that goes round", x -> {
            x.load("1=00;2=00;7=00;3=00/p0");
            x.set(1, 9);
            x.connect(1, 0, 24);
            x.connect(3, 0, 32);
            x.set(1, 0);
            x.set(0, 4);
            x.keep();
            x.undo();
            x.undo();
            x.restore();
            for (int wire = 0; wire < 6; wire++) {
                x.connect(wire < 3 ? 2 : 7, wire % 3, 1);
            }
        });
        Checks.due("now", inPlace.made().count(2), 9);
        Checks.due("laid anew", inPlace.made().layAnew(0), 7);
        inPlace.leaves("bestSwap(1)", x -> x.bestSwap(1), NONE);
        // As the wires lie now, and not as they would be laid: a change elsewhere has fewer.
        Scene worse = new Scene("a wire that goes round", x -> {
            x.load("1=00;2=00/p0;20=00");
            x.set(0, 1);
            x.connect(1, 0, 24);
            x.connect(2, 0, 32);
        });
        Checks.due("now", worse.made().count(2), 3);
        worse.leaves("bestSwap(20)", x -> x.bestSwap(20), 0);
        worse.leaves("bestSwap(1)", x -> x.bestSwap(1), 0);
    }

    private static void bestSwapAsTold() {
        Checks.holds("Promise 21", "Finds the place with which a cell had best change");
        // A change that is crowded has no segments, and is no change.
        Scenes.CROWDED_IF_ANEW.leaves("bestSwap(20)", x -> x.bestSwap(20), UNKNOWN);
        for (Scene scene : Scenes.ALL) {
            dueAsIfSwap(scene);
        }
        for (OrderCase one : OrderCase.ALL) {
            dueAsIfSwap(one.scene);
        }
    }

    private static void dueAsIfSwap(Scene scene) {
        Watched x = scene.made();
        for (int place : new int[] {0, 1, 7}) {
            int best = x.cell(place, 0) < 0 ? UNKNOWN : NONE;
            int fewest = x.count(2);
            for (int other = 0; other < 24 && best != UNKNOWN; other++) {
                int segments = x.ifSwap(place, other);
                if (segments >= 0 && segments < fewest) {
                    best = other;
                    fewest = segments;
                }
            }
            Checks.due("bestSwap(" + place + ")", x.bestSwap(place), best);
        }
    }

    private static void bestOrder() {
        Checks.holds("Promise 22", "Finds the order by which layAnew() makes the fewest segments, of several the lowest "
            + "one.", "Returns the order; NONE if all of them are crowded.");
        Scenes.NEW.leaves("bestOrder()", x -> x.bestOrder(), 0);
        Scenes.SOME.leaves("bestOrder()", x -> x.bestOrder(), 0);
        Scenes.FULL.leaves("bestOrder()", x -> x.bestOrder(), 0);
        Scenes.CROWDED_IF_ANEW.leaves("bestOrder()", x -> x.bestOrder(), NONE);
        for (OrderCase one : OrderCase.ALL) {
            // Whether there are fewer now doesn't matter.
            Checks.due("now", one.scene.made().count(2), one.segmentsNow);
            one.scene.leaves("bestOrder()", x -> x.bestOrder(), one.best);
        }
    }

    private static void count() {
        Checks.holds("Promise 23", "- `what`: 0 for cells, 1 for wires, 2 for segments of all wires together,",
            "7 and 8 for the settings 0 and 1, 9 for the states in the history, 10 for the length of the text");
        Watched x = new Watched();
        for (int place = 0; place < 24; place++) {
            Checks.due("cells", x.count(0), place);
            x.put(place, 1);
        }
        Checks.due("cells", x.count(0), 24);
        Checks.due("wires", x.count(1), 0);
        for (int wire = 0; wire < 72; wire++) {
            x.connect(wire / 3, wire % 3, wire / 3);
            Checks.due("wires", x.count(1), wire + 1);
        }
        Checks.due("segments", x.count(2), 0);
        Watched y = Scenes.loaded("0=00/p0/c0/1;23=00/p0/c0/0");
        Checks.due("wires, those without a segment too", y.count(1), 4);
        Checks.due("segments", y.count(2), 16);
        for (int most = 1; most <= 4; most++) {
            Checks.due("the setting 0", Scenes.cells(most, 5).count(7), most);
        }
        for (int price = 0; price <= 9; price++) {
            Checks.due("the setting 1", Scenes.cells(4, price).count(8), price);
        }
        for (int acts = 0; acts <= 5; acts++) {
            Watched z = new Watched();
            for (int place = 0; place < acts; place++) {
                z.put(place, 0);
            }
            Checks.due("states", z.count(9), Math.min(acts, 4));
        }
        Watched text = new Watched();
        for (int length = 0; length <= 81; length++) {
            Checks.due("the length of the text", text.count(10), Math.min(length, 80));
            text.type('x');
        }
    }

    private static void countFull() {
        Checks.holds("Promise 23", "3 for segments that hold as many wires as they can, 4 for the most wires that a "
            + "segment holds,");
        Watched x = new Watched();
        Checks.due("full ones of a new board", x.count(3), 0);
        Checks.due("the most of a new board", x.count(4), 0);
        for (int most = 1; most <= 4; most++) {
            Watched y = Scenes.cells(4, 0, 1, 2);
            for (int wire = 0; wire < most; wire++) {
                y.connect(1 + wire % 2, wire / 2, 24);
            }
            Checks.due("the most", y.count(4), most);
            for (int value = 4; value >= most; value--) {
                y.set(0, value);
                int full = 0;
                for (int place = 0; place < 24; place++) {
                    full += y.held(place, place + 1) == value ? 1 : 0;
                    full += y.held(place, place + 6) == value ? 1 : 0;
                }
                Checks.due("full ones of " + most + " at " + value, y.count(3), full);
                Checks.due("one at the least, if the most is as many", full > 0, value == most);
            }
        }
        Watched last = Scenes.loaded("22=00/p7/p7;17=00/p7/p7/c22");
        Checks.due("the last ones", last.count(3), 2);
        Checks.due("the most", last.count(4), 2);
    }

    private static void countDepths() {
        Checks.holds("Promise 23", "5 for cells that answer nothing, 6 for the greatest depth (0 without any),");
        Checks.due("no cells", new Watched().count(6), 0);
        Checks.due("no cells that answer nothing", new Watched().count(5), 0);
        Checks.due("one cell", Scenes.loaded("23=00").count(6), 1);
        Checks.due("one that answers nothing", Scenes.loaded("23=00/c23").count(6), 0);
        Checks.due("one that answers nothing", Scenes.loaded("23=00/c23").count(5), 1);
        Checks.due("full, one deep", Scenes.FULL.made().count(6), 1);
        Checks.due("full, all answer", Scenes.FULL.made().count(5), 0);
        Watched x = Scenes.loaded("0=00/c1;1=00/c0;2=00/c1;3=00;4=00/c3;5=00/c4/c2");
        Checks.due("the greatest of those that answer", x.count(6), 2);
        Checks.due("those that answer nothing", x.count(5), 4);
        Watched y = Scenes.FULL.made();
        for (int place = 0; place < 24; place++) {
            y.connect(place, 2, place);
            Checks.due("those that answer nothing", y.count(5), place + 1);
            Checks.due("the greatest depth", y.count(6), place < 23 ? 1 : 0);
        }
    }

    private static void countRefused() {
        Checks.holds("Promise 23", "Returns the number; BAD_VALUE.");
        for (Scene scene : Scenes.ALL) {
            scene.leaves("count(-1)", x -> x.count(-1), BAD_VALUE);
            scene.leaves("count(11)", x -> x.count(11), BAD_VALUE);
        }
        for (int number : Scenes.EXTREMES) {
            Scenes.SOME.leaves("count(" + number + ")", x -> x.count(number), BAD_VALUE);
        }
        for (int what = 0; what <= 10; what++) {
            Checks.dueNotBelow("count(" + what + ")", new Watched().count(what), 0);
        }
    }
}
