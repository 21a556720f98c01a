import java.util.ArrayList;
import java.util.List;
import java.util.function.ToIntFunction;

/** What the terms say of the history, the snapshot and errors, and undo(), keep() and restore(). */
final class HistoryPart {
    private static final String HISTORY = "HISTORY";
    private static final String ERRORS = "ERRORS";
    private static final int UNKNOWN = LookupBoard.UNKNOWN;
    private static final int BAD_VALUE = LookupBoard.BAD_VALUE;
    private static final int CROWDED = LookupBoard.CROWDED;
    private static final int NOT_POSSIBLE = LookupBoard.NOT_POSSIBLE;
    private static final int NONE = LookupBoard.NONE;

    private HistoryPart() {
    }

    static void run() {
        constants();
        mostStates();
        latestState();
        eachActRecords();
        othersDoNot();
        stateAndTheRest();
        snapshot();
        orderOfChecks();
        noneIsLast();
        nothingChanges();
        undo();
        undoBringsAllBack();
        keep();
        restore();
    }

    private static void constants() {
        Checks.holds(ERRORS, "Errors are reported by the constants below.", "The constants:",
            "`UNKNOWN = -1`: There is no such place, cell, input or source.",
            "`BAD_VALUE = -2`: Another argument is out of range.", "`CROWDED = -3`: A wire finds no path.",
            "`NOT_POSSIBLE = -4`: This is not possible.", "`NONE = -5`: There is no such thing; not an error.",
            "`FULL = -6`: The text is full.");
        int[] constants = {UNKNOWN, BAD_VALUE, CROWDED, NOT_POSSIBLE, NONE, LookupBoard.FULL};
        for (int index = 0; index < constants.length; index++) {
            Checks.due("the constant " + index, constants[index], -1 - index);
        }
        // The calls of each group that is named are there, with a board that is made for each.
        Checks.holds(ERRORS, "Ahead of the calls `put`, `take`, `setTable`, `connect`, `swap`, `layAnew`, `set`, `load` "
            + "the interface says: ---- cells, sources.", "Ahead of the calls `type`, `clearText` the interface says: "
            + "---- texts.", "Ahead of the calls `undo`, `keep`, `restore` the interface says: ---- history.",
            "Ahead of the calls `cell`, `path`, `held`, `answer`, `ones`, `ifSwap`, `bestSwap`, `bestOrder`, `count` "
            + "the interface says: ---- what is told.");
        Watched x = new Watched();
        int[] cells = {x.put(0, 0), x.take(0), x.setTable(0, 0), x.connect(0, 0, 0), x.swap(0, 1), x.layAnew(0),
            x.set(0, 1), x.load()};
        int[] others = {x.type('a'), x.clearText(), x.undo(), x.keep(), x.restore()};
        int[] told = {x.cell(0, 0), x.path(0, 0, 0), x.held(0, 1), x.answer(0, 0), x.ones(0), x.ifSwap(0, 1),
            x.bestSwap(0), x.bestOrder(), x.count(0)};
        dueAll("cells, sources", cells, 1, 0, UNKNOWN, UNKNOWN, NONE, 0, 2, -100);
        dueAll("texts, history", others, 1, 1, 3, 0, 0);
        dueAll("what is told", told, UNKNOWN, UNKNOWN, 0, UNKNOWN, UNKNOWN, NONE, UNKNOWN, 0, 0);
    }

    private static void dueAll(String calls, int[] got, int... want) {
        for (int index = 0; index < want.length; index++) {
            Checks.due(calls + ", the call " + index, got[index], want[index]);
        }
    }

    private static void mostStates() {
        Checks.holds(HISTORY, "A history of at most 4 states is kept; when one more is recorded, the oldest one is "
            + "dropped;");
        for (int acts = 0; acts <= 12; acts++) {
            Watched x = new Watched();
            for (int place = 0; place < acts; place++) {
                x.put(place, place);
                Checks.due("states behind " + place, x.count(9), Math.min(place + 1, 4));
            }
            int states = Math.min(acts, 4);
            for (int left = states - 1; left >= 0; left--) {
                Checks.due("undo", x.undo(), left);
                Checks.due("cells", x.count(0), acts - states + left);
                Checks.due("states", x.count(9), left);
            }
            Checks.due("no state is left", x.undo(), NONE);
            Checks.due("cells", x.count(0), Math.max(acts - 4, 0));
        }
        // Full, undone and full again: the states are those of the way that was gone.
        Watched x = new Watched();
        for (int place = 0; place < 6; place++) {
            x.put(place, 1);
        }
        x.undo();
        x.undo();
        for (int place = 10; place < 13; place++) {
            x.put(place, 1);
        }
        Checks.due("states", x.count(9), 4);
        int[] cells = {6, 5, 4, 3};
        for (int turn = 0; turn < 4; turn++) {
            x.undo();
            Checks.due("cells", x.count(0), cells[turn]);
        }
        Checks.due("the oldest that is left", x.cell(2, 0), 1);
        Checks.due("undone", x.cell(3, 0), UNKNOWN);
    }

    private static void latestState() {
        Checks.holds(HISTORY, "undo() removes and restores the latest one.");
        Watched x = new Watched();
        x.put(7, 1);
        x.setTable(7, 2);
        x.setTable(7, 3);
        x.undo();
        Checks.due("the latest", x.cell(7, 0), 2);
        x.setTable(7, 4);
        x.undo();
        Checks.due("the latest again", x.cell(7, 0), 2);
        x.undo();
        Checks.due("the one ahead of it", x.cell(7, 0), 1);
        x.undo();
        Checks.due("the first one", x.count(0), 0);
        // What is changed after undo() doesn't change what was recorded, nor the other way round.
        Watched y = Scenes.loaded("7=96/p0");
        y.setTable(7, 1);
        y.undo();
        y.connect(7, 0, 31);
        y.undo();
        Checks.due("as loaded", y.cell(7, 0) * 100 + y.cell(7, 1), 15024);
        Checks.due("its way", y.way(7, 0), "0-1-7");
        Checks.due("held", y.held(1, 7), 1);
    }

    private static void eachActRecords() {
        Checks.holds(HISTORY, "Each call of a method that is described as an act, and returns no error and not NONE, "
            + "records the state that was before it.");
        Scene scene = new Scene("a board for each act", x -> {
            x.load("7=96/p0/p1/1;16=e8/c7/c7/p7;3=0f/c3");
            x.keep();
        });
        scene.records("put", x -> x.put(0, 1), 4);
        scene.records("take", x -> x.take(16), 2);
        scene.records("setTable", x -> x.setTable(16, 1), 232);
        scene.records("connect", x -> x.connect(16, 0, 33), 0);
        scene.records("connect, a wire", x -> x.connect(16, 0, 3), 3);
        scene.records("swap", x -> x.swap(7, 8), scene.made().ifSwap(7, 8));
        scene.records("layAnew", x -> x.layAnew(2), 13);
        scene.records("set", x -> x.set(0, 3), 2);
        scene.records("set", x -> x.set(1, 0), 1);
        scene.records("load", x -> x.load(), 3);
        scene.records("restore", x -> x.restore(), 3);
        // Each of five acts alone: the history holds the last four.
        Watched y = scene.made();
        y.put(0, 1);
        y.connect(0, 0, 7);
        y.set(1, 4);
        y.swap(0, 1);
        y.layAnew(1);
        int[] prices = {4, 4, 1, 1};
        int[] sources = {UNKNOWN, 7, 7, 32};
        for (int turn = 0; turn < 4; turn++) {
            y.undo();
            Checks.due("the price, undone " + turn, y.count(8), prices[turn]);
            Checks.due("the source, undone " + turn, y.cell(0, 1), sources[turn]);
        }
    }

    private static void othersDoNot() {
        Checks.holds(HISTORY, "Each call of a method that is described as an act");
        for (Scene scene : List.of(Scenes.SOME, Scenes.CROWDED_IF_ANEW)) {
            int cells = scene.made().count(0);
            scene.recordsNothing("keep()", x -> x.keep(), cells);
            scene.recordsNothing("type('1')", x -> x.type('1'), scene.made().count(10) + 1);
            scene.recordsNothing("clearText()", x -> x.clearText(), scene.made().count(10));
        }
        for (Scene scene : Scenes.ALL) {
            for (int place : new int[] {0, 7, 23}) {
                for (int what = 0; what <= 6; what++) {
                    int which = what;
                    scene.leaves("cell", x -> x.cell(place, which), scene.made().cell(place, what));
                }
                scene.leaves("path", x -> x.path(place, 0, 1), scene.made().path(place, 0, 1));
                scene.leaves("held", x -> x.held(place, place - 1), scene.made().held(place, place - 1));
                scene.leaves("answer", x -> x.answer(place, 99), scene.made().answer(place, 99));
                scene.leaves("ones", x -> x.ones(place), scene.made().ones(place));
                scene.leaves("ifSwap", x -> x.ifSwap(place, 16), scene.made().ifSwap(place, 16));
                scene.leaves("bestSwap", x -> x.bestSwap(place), scene.made().bestSwap(place));
            }
            scene.leaves("bestOrder", x -> x.bestOrder(), scene.made().bestOrder());
            for (int what = 0; what <= 10; what++) {
                int which = what;
                scene.leavesAsItIs("count", x -> x.count(which), scene.made().count(what));
            }
        }
    }

    private static void stateAndTheRest() {
        Checks.holds(HISTORY, "A state is everything but the text, the history and the snapshot.");
        Watched x = Scenes.loaded("7=96/p0;8=01/c7");
        x.set(0, 4);
        x.set(1, 9);
        x.keep();
        x.set(0, 1);
        x.set(1, 0);
        x.clearText();
        x.write("9=00");
        x.undo();
        Checks.due("the setting 1 is undone", x.count(8), 9);
        Checks.due("the setting 0 is not yet", x.count(7), 1);
        x.undo();
        Checks.due("the setting 0 is undone", x.count(7), 4);
        Checks.due("the text is not", x.count(10), 4);
        x.undo();
        Checks.due("the setting 1, undone again", x.count(8), 1);
        Checks.due("the snapshot is not undone", x.restore(), 2);
        Checks.due("its setting 0", x.count(7), 4);
        Checks.due("its setting 1", x.count(8), 9);
        Checks.due("the text is not that of the snapshot", x.load(), 1);
        // The snapshot has no history of its own, and none goes with it.
        Watched y = new Watched();
        y.put(0, 1);
        y.put(1, 1);
        y.keep();
        y.undo();
        y.undo();
        Checks.due("restore", y.restore(), 2);
        Checks.due("the history is that of now", y.count(9), 1);
        y.undo();
        Checks.due("ahead of restore()", y.count(0), 0);
        Checks.due("nothing more", y.undo(), NONE);
        Checks.due("still there", y.restore(), 2);
    }

    private static void snapshot() {
        Checks.holds(HISTORY, "There is one snapshot, empty at first.");
        Checks.due("at first", new Watched().restore(), NONE);
        Checks.due("at first, with cells", Scenes.loaded("7=01").restore(), NONE);
        Watched x = new Watched();
        x.put(7, 1);
        x.keep();
        x.setTable(7, 2);
        x.keep();
        x.setTable(7, 3);
        x.restore();
        Checks.due("the latest snapshot", x.cell(7, 0), 2);
        x.undo();
        Checks.due("ahead of it", x.cell(7, 0), 3);
        x.restore();
        x.restore();
        Checks.due("there is no other", x.cell(7, 0), 2);
    }

    private static void orderOfChecks() {
        Checks.holds(ERRORS, "Where several errors can apply, the order of the @return line is the order of the checks.");
        Scene scene = new Scene("a board on which all may be wrong", x -> {
            x.set(0, 1);
            x.load("1=00;6=00;7=00/c7");
            x.connect(7, 0, 24);
            x.connect(6, 0, 1);
            x.clearText();
            x.write("0=00/p1/p2/p3;5=01/c6;");
        });
        scene.leaves("put: UNKNOWN, BAD_VALUE", x -> x.put(24, 256), UNKNOWN);
        scene.leaves("put: BAD_VALUE, NOT_POSSIBLE", x -> x.put(7, 256), BAD_VALUE);
        scene.leaves("setTable: UNKNOWN, BAD_VALUE", x -> x.setTable(8, -1), UNKNOWN);
        scene.leaves("connect: UNKNOWN, CROWDED", x -> x.connect(1, 3, 24), UNKNOWN);
        scene.leaves("swap: UNKNOWN, CROWDED", x -> x.swap(7, 24), UNKNOWN);
        scene.leaves("layAnew: BAD_VALUE, CROWDED", x -> x.layAnew(3), BAD_VALUE);
        scene.leaves("set: UNKNOWN, BAD_VALUE", x -> x.set(2, 99), UNKNOWN);
        scene.leaves("set: UNKNOWN, BAD_VALUE", x -> x.set(-1, -1), UNKNOWN);
        Scene two = Scenes.plan("7=00/p0/p0;6=00/p0");
        two.leaves("set: BAD_VALUE, NOT_POSSIBLE", x -> x.set(0, 0), BAD_VALUE);
        scene.leaves("load: a fault, NOT_POSSIBLE, CROWDED", x -> x.load(), -122);
        new Scene("no fault", x -> x.write("0=00/p1/p1/p1;5=01/p7/p7/p7;6=01/c4"))
            .leaves("load: NOT_POSSIBLE, CROWDED", x -> x.load(), NOT_POSSIBLE);
        scene.leaves("cell: UNKNOWN, BAD_VALUE", x -> x.cell(8, 7), UNKNOWN);
        scene.leaves("path: UNKNOWN, BAD_VALUE", x -> x.path(7, 3, -1), UNKNOWN);
        scene.leaves("path: UNKNOWN, BAD_VALUE", x -> x.path(8, 0, -1), UNKNOWN);
        scene.leaves("answer: UNKNOWN, BAD_VALUE", x -> x.answer(8, 256), UNKNOWN);
        scene.leaves("ifSwap: UNKNOWN, CROWDED", x -> x.ifSwap(-1, 7), UNKNOWN);
    }

    private static void noneIsLast() {
        Checks.holds(ERRORS, "NONE is no error; it is returned only if no error applies.");
        Scene scene = Scenes.plan("3=00/c3;7=00/p0/1");
        scene.leaves("answer, bits that are out of range", x -> x.answer(3, 256), BAD_VALUE);
        scene.leaves("answer, bits that are out of range", x -> x.answer(3, -1), BAD_VALUE);
        scene.leaves("answer", x -> x.answer(3, 255), NONE);
        scene.leaves("path without a wire, a step that is out of range", x -> x.path(7, 1, -1), BAD_VALUE);
        scene.leaves("path without a wire", x -> x.path(7, 1, 0), NONE);
        scene.leaves("swap of the same, which is no place", x -> x.swap(24, 24), UNKNOWN);
        scene.leaves("ifSwap of the same, which is no place", x -> x.ifSwap(-1, -1), UNKNOWN);
        scene.leaves("setTable of no cell", x -> x.setTable(8, -1), UNKNOWN);
        scene.leaves("connect of no cell", x -> x.connect(8, 0, 32), UNKNOWN);
        scene.leaves("ones of no cell", x -> x.ones(8), UNKNOWN);
        scene.leaves("bestSwap of no cell", x -> x.bestSwap(8), UNKNOWN);
    }

    private static void nothingChanges() {
        Checks.holds(ERRORS, "A call that returns an error or NONE changes nothing.");
        List<ToIntFunction<Watched>> calls = new ArrayList<>();
        calls.add(x -> x.put(7, 1));
        calls.add(x -> x.take(7));
        calls.add(x -> x.setTable(7, 256));
        calls.add(x -> x.connect(7, 0, 34));
        calls.add(x -> x.swap(7, 24));
        calls.add(x -> x.layAnew(-1));
        calls.add(x -> x.set(0, 5));
        calls.add(x -> x.set(1, 10));
        calls.add(x -> x.load());
        calls.add(x -> x.cell(7, 7));
        calls.add(x -> x.path(7, 0, -1));
        calls.add(x -> x.held(7, 9));
        calls.add(x -> x.answer(7, 256));
        calls.add(x -> x.ones(24));
        calls.add(x -> x.ifSwap(24, 7));
        calls.add(x -> x.bestSwap(24));
        calls.add(x -> x.count(11));
        // All of them, one behind the other, each refused: no one makes way for the next.
        Scenes.SOME.leaves("all that are refused", x -> {
            int refused = 0;
            for (ToIntFunction<Watched> call : calls) {
                refused += call.applyAsInt(x) < 0 ? 1 : 0;
            }
            return refused;
        }, calls.size());
    }

    private static void undo() {
        Checks.holds("Promise 12", "Removes and restores the latest state of the history.",
            "Returns the number of states that are left; NONE if the history is empty.");
        Scenes.NEW.leavesAsItIs("undo()", x -> x.undo(), NONE);
        new Scene("all undone, with cells", x -> {
            for (int place = 0; place < 7; place++) {
                x.put(place, 1);
            }
            x.keep();
            x.write("7=0");
            for (int turn = 0; turn < 4; turn++) {
                x.undo();
            }
        }).leavesAsItIs("undo()", x -> x.undo(), NONE);
        Watched x = Scenes.FULL.made();
        Checks.due("the only state", x.undo(), 0);
        Checks.due("cells", x.count(0), 20);
        Checks.due("none", x.undo(), NONE);
        Checks.due("cells", x.count(0), 20);
        Checks.due("states", x.count(9), 0);
        Checks.due("none again", x.undo(), NONE);
        Checks.due("an act", x.put(23, 9), 21);
        Checks.due("undo of it", x.undo(), 0);
        Checks.due("cells", x.count(0), 20);
        Checks.due("the text stays", x.count(10), 80);
        Checks.due("the snapshot stays", x.restore(), 24);
        // undo() is no act: it can't be undone.
        Watched y = new Watched();
        y.put(0, 1);
        y.put(1, 1);
        y.undo();
        y.undo();
        Checks.due("undo() isn't undone", y.undo(), NONE);
        Checks.due("cells", y.count(0), 0);
    }

    private static void undoBringsAllBack() {
        Checks.holds("Promise 12", "restores the latest state");
        Scene round = new Scene("wires that go round", x -> {
            x.load("7=00;12=05");
            x.connect(7, 1, 24);
            x.connect(7, 0, 24);
        });
        Scene undone = new Scene("wires that went round", x -> {
            x.load("7=00;12=05");
            x.connect(7, 1, 24);
            x.connect(7, 0, 24);
            x.layAnew(0);
            x.undo();
        });
        undone.tellsAs(round);
        Checks.due("as they lay, and not laid anew", undone.made().way(7, 0), "0-6-7");
        Checks.due("laid anew", round.made().layAnew(0), 4);
        Checks.due("again undone", undone.made().undo(), 2);
    }

    private static void keep() {
        Checks.holds("Promise 13", "Takes a snapshot of the state, in place of the one that was.",
            "Returns how many cells there are.");
        Checks.due("of an empty board", new Watched().keep(), 0);
        Checks.due("of a full one", Scenes.FULL.made().keep(), 24);
        Checks.due("of three cells", Scenes.SOME.made().keep(), 3);
        Scenes.NEW.leavesState("keep()", x -> x.keep(), 0);
        Scenes.SOME.leavesState("keep()", x -> x.keep(), 3);
        Scenes.FULL.leavesState("keep()", x -> x.keep(), 24);
        Scenes.CROWDED_IF_ANEW.leavesState("keep()", x -> x.keep(), 3);
        Watched x = Scenes.FULL.made();
        x.undo();
        Checks.due("in place of the one that was", x.keep(), 20);
        Checks.due("restore", x.restore(), 20);
        // The snapshot of an empty board is one, too.
        Watched y = new Watched();
        y.keep();
        y.put(0, 1);
        Checks.due("an empty board", y.restore(), 0);
        Checks.due("cells", y.count(0), 0);
        Checks.due("states", y.count(9), 2);
    }

    private static void restore() {
        Checks.holds("Promise 14", "Restores the state of the snapshot, which stays. This is an act.",
            "Returns how many cells there are then; NONE if there is no snapshot.");
        Scenes.NEW.leaves("restore()", x -> x.restore(), NONE);
        Scenes.CROWDED_IF_ANEW.leaves("restore()", x -> x.restore(), NONE);
        Scenes.plan("7=96/p0;8=01/c7").leaves("restore()", x -> x.restore(), NONE);
        Scenes.SOME.records("restore()", x -> x.restore(), 3);
        Scenes.FULL.records("restore() of what is there", x -> x.restore(), 24);
        Scene kept = new Scene("a board that was kept", x -> {
            x.load("7=00;12=05;1=77/c1");
            x.connect(7, 1, 24);
            x.connect(7, 0, 24);
            x.set(0, 3);
            x.set(1, 7);
        });
        Scene restored = new Scene("a board that was restored", x -> {
            x.load("7=00;12=05;1=77/c1");
            x.connect(7, 1, 24);
            x.connect(7, 0, 24);
            x.set(0, 3);
            x.set(1, 7);
            x.keep();
            x.layAnew(0);
            x.set(0, 4);
            x.set(1, 0);
            x.take(12);
            x.setTable(1, 0);
            x.restore();
        });
        restored.tellsAs(kept);
        Watched x = restored.made();
        Checks.due("as they lay, and not laid anew", x.way(7, 0), "0-6-7");
        x.take(7);
        x.setTable(1, 1);
        Checks.due("it stays", x.restore(), 3);
        Checks.due("its table", x.cell(1, 0), 0x77);
        Checks.due("its way", x.way(7, 1), "0-1-7");
    }
}
