import java.util.ArrayList;
import java.util.Arrays;
import java.util.List;
import java.util.function.Consumer;
import java.util.function.ToIntFunction;

/**
 * A board that can be made again and again, so that two of them can be told apart: one on which
 * a call was made, and one on which it was not. Each part of what they tell is asked of two new
 * objects, because none of them may be asked more than 512 times.
 */
final class Scene {
    private static final int STATE_PARTS = 7;
    private static final int HISTORY = 7;
    private static final int FIRST_UNDONE = 8;
    private static final int SNAPSHOT = 12;
    private static final int TEXT = 13;
    private static final int PARTS = 14;

    private final String name;
    private final Consumer<Watched> acts;

    Scene(String name, Consumer<Watched> acts) {
        this.name = name;
        this.acts = acts;
    }

    Watched made() {
        Watched x = new Watched();
        acts.accept(x);
        return x;
    }

    /** The same board, but with four states in its history, none like the one behind it. */
    private Watched madeWithFullHistory() {
        Watched x = made();
        int price = x.count(8);
        for (int turn = 0; turn < 4; turn++) {
            x.set(1, turn % 2 == 0 ? (price + 1) % 10 : price);
        }
        return x;
    }

    private Watched made(boolean full) {
        return full ? madeWithFullHistory() : made();
    }

    /** A call that is refused, or that only tells: its answer, and that nothing is changed or recorded. */
    void leaves(String call, ToIntFunction<Watched> made, int want) {
        leaves(call, made, want, false);
        leaves(call, made, want, true);
    }

    /** The same, for a call that hangs on what is in the history. */
    void leavesAsItIs(String call, ToIntFunction<Watched> made, int want) {
        leaves(call, made, want, false);
    }

    private void leaves(String call, ToIntFunction<Watched> made, int want, boolean full) {
        for (int part = 0; part < PARTS; part++) {
            Watched called = made(full);
            int got = made.applyAsInt(called);
            if (part == 0) {
                Checks.due(name + ": " + call, got, want);
            }
            same("behind " + call, part, made(full), called);
        }
    }

    /** An act: its answer, that one state is recorded, and that undo() brings back what was. */
    void records(String call, ToIntFunction<Watched> made, int want) {
        recordsOne(call, made, want);
        for (int part = 0; part < PARTS; part++) {
            Watched plain = made();
            Watched called = made();
            int states = plain.count(9);
            made.applyAsInt(called);
            called.undo();
            if (states < 4) {
                same("behind undo() of " + call, part, plain, called);
            }
        }
        for (int part = 0; part < FIRST_UNDONE + 3; part++) {
            Watched plain = madeWithFullHistory();
            Watched called = madeWithFullHistory();
            made.applyAsInt(called);
            called.undo();
            if (part != HISTORY) {
                same("behind undo() of " + call, part, plain, called);
            }
        }
    }

    private void recordsOne(String call, ToIntFunction<Watched> made, int want) {
        Watched x = made();
        int states = x.count(9);
        Checks.due(name + ": " + call, made.applyAsInt(x), want);
        Checks.due(name + ": count(9) behind " + call, x.count(9), Math.min(states + 1, 4));
        Checks.due(name + ": undo() behind " + call, x.undo(), Math.min(states, 3));
        Watched full = madeWithFullHistory();
        made.applyAsInt(full);
        Checks.due(name + ": count(9), full, behind " + call, full.count(9), 4);
        Checks.due(name + ": undo(), full, behind " + call, full.undo(), 3);
    }

    /** A call that changes what is told, but records no state. */
    void recordsNothing(String call, ToIntFunction<Watched> made, int want) {
        for (int full = 0; full < 2; full++) {
            Watched x = made(full == 1);
            Checks.due(name + ": " + call, made.applyAsInt(x), want);
            for (int part = HISTORY; part < SNAPSHOT; part++) {
                Watched called = made(full == 1);
                made.applyAsInt(called);
                same("behind " + call, part, made(full == 1), called, 10);
            }
        }
    }

    /** A call that changes the text or the snapshot, but nothing of the state. */
    void leavesState(String call, ToIntFunction<Watched> made, int want) {
        recordsNothing(call, made, want);
        for (int part = 0; part < STATE_PARTS; part++) {
            Watched called = made();
            made.applyAsInt(called);
            same("behind " + call, part, made(), called, 10);
        }
    }

    /** Whether two scenes tell the same of their states. */
    void tellsAs(Scene other) {
        for (int part = 0; part < STATE_PARTS; part++) {
            same("as " + other.name, part, other.made(), made(), 10);
        }
    }

    private void same(String when, int part, Watched plain, Watched called) {
        same(when, part, plain, called, -1);
    }

    private void same(String when, int part, Watched plain, Watched called, int countLeftOut) {
        List<Integer> want = told(plain, part, countLeftOut);
        List<Integer> got = told(called, part, countLeftOut);
        Checks.due(name + ": part " + part + " of what is told " + when, got, want);
    }

    private static List<Integer> told(Watched x, int part, int countLeftOut) {
        List<Integer> told = new ArrayList<>();
        if (part == 0) {
            tellCounts(x, told, countLeftOut);
        } else if (part == 1) {
            tellCells(x, told);
        } else if (part < 6) {
            tellPaths(x, told, (part - 2) * 6);
        } else if (part == 6) {
            tellAnswers(x, told);
        } else if (part == HISTORY) {
            told.add(x.count(9));
            for (int turn = 0; turn < 5; turn++) {
                told.add(x.undo());
            }
        } else if (part < SNAPSHOT) {
            for (int turn = FIRST_UNDONE; turn <= part; turn++) {
                x.undo();
            }
            tellState(x, told, countLeftOut);
        } else if (part == SNAPSHOT) {
            told.add(x.restore());
            tellState(x, told, countLeftOut);
        } else if (part == TEXT) {
            told.add(x.type(';'));
            told.add(x.load());
            tellState(x, told, countLeftOut);
            told.add(x.clearText());
        }
        return told;
    }

    private static void tellState(Watched x, List<Integer> told, int countLeftOut) {
        tellCounts(x, told, countLeftOut);
        tellCells(x, told);
    }

    private static void tellCounts(Watched x, List<Integer> told, int countLeftOut) {
        for (int what : Arrays.asList(0, 1, 2, 3, 4, 5, 6, 7, 8, 10)) {
            told.add(what == countLeftOut ? 0 : x.count(what));
        }
        for (int place = 0; place < 24; place++) {
            told.add(x.held(place, place + 1));
            told.add(x.held(place, place + 6));
        }
    }

    private static void tellCells(Watched x, List<Integer> told) {
        for (int place = 0; place < 24; place++) {
            for (int what = 0; what < 7; what++) {
                told.add(x.cell(place, what));
            }
        }
    }

    private static void tellPaths(Watched x, List<Integer> told, int first) {
        for (int place = first; place < first + 6; place++) {
            for (int input = 0; input < 3; input++) {
                int junction = 0;
                for (int step = 0; junction >= 0 && step < 24; step++) {
                    junction = x.path(place, input, step);
                    told.add(junction);
                }
            }
        }
    }

    private static void tellAnswers(Watched x, List<Integer> told) {
        for (int place = 0; place < 24; place++) {
            told.add(x.ones(place));
            for (int bits = 0; bits < 256; bits += 51) {
                told.add(x.answer(place, bits));
            }
        }
    }
}
