/** A board that refuses a test's call behind its 512th: what an object answers there is free. */
final class Watched {
    static final int MOST_CALLS = 512;

    private final LookupBoard board = new LookupBoard();
    private int calls = 0;

    private LookupBoard next() {
        calls++;
        if (calls > MOST_CALLS) {
            throw new IllegalStateException("a test makes more than 512 calls on one object");
        }
        return board;
    }

    int put(int place, int table) {
        return next().put(place, table);
    }

    int take(int place) {
        return next().take(place);
    }

    int setTable(int place, int table) {
        return next().setTable(place, table);
    }

    int connect(int place, int input, int source) {
        return next().connect(place, input, source);
    }

    int swap(int one, int other) {
        return next().swap(one, other);
    }

    int layAnew(int order) {
        return next().layAnew(order);
    }

    int set(int which, int value) {
        return next().set(which, value);
    }

    int load() {
        return next().load();
    }

    int type(char character) {
        return next().type(character);
    }

    int clearText() {
        return next().clearText();
    }

    int undo() {
        return next().undo();
    }

    int keep() {
        return next().keep();
    }

    int restore() {
        return next().restore();
    }

    int cell(int place, int what) {
        return next().cell(place, what);
    }

    int path(int place, int input, int step) {
        return next().path(place, input, step);
    }

    int held(int one, int other) {
        return next().held(one, other);
    }

    int answer(int place, int bits) {
        return next().answer(place, bits);
    }

    int ones(int place) {
        return next().ones(place);
    }

    int ifSwap(int one, int other) {
        return next().ifSwap(one, other);
    }

    int bestSwap(int place) {
        return next().bestSwap(place);
    }

    int bestOrder() {
        return next().bestOrder();
    }

    int count(int what) {
        return next().count(what);
    }

    // ---- several calls at once

    void write(String text) {
        for (int index = 0; index < text.length(); index++) {
            type(text.charAt(index));
        }
    }

    /** Loads a plan in place of the text that was. */
    int load(String text) {
        clearText();
        write(text);
        return load();
    }

    /** The junctions of a wire's path with "-" between two; empty without a wire. */
    String way(int place, int input) {
        StringBuilder way = new StringBuilder();
        int junction = path(place, input, 0);
        for (int step = 1; junction >= 0 && step < 40; step++) {
            way.append(step > 1 ? "-" : "").append(junction);
            junction = path(place, input, step);
        }
        return way.toString();
    }
}
