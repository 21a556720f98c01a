import java.util.Arrays;

/** A small board of lookup cells, of the wires between them, and of what the cells answer. */
public final class LookupBoard {
    public static final int UNKNOWN = -1;
    public static final int BAD_VALUE = -2;
    public static final int CROWDED = -3;
    public static final int NOT_POSSIBLE = -4;
    public static final int NONE = -5;
    public static final int FULL = -6;

    private static final int COLUMNS = 6;
    private static final int ROWS = 4;
    private static final int PLACES = 24;
    private static final int INPUTS = 3;
    private static final int WIRES = 72;

    private static final int FIRST_PAD = 24;
    private static final int FIRST_RIGHT_PAD = 28;
    private static final int ZERO = 32;
    private static final int ONE = 33;

    private static final int TABLES = 256;
    private static final int PAD_BITS = 256;
    private static final int NO_CELL = -1;
    private static final int NOWHERE = -1;

    // The sides of a junction are numbered so that the junctions beyond them ascend.
    private static final int[] STEPS = {-6, -1, 1, 6};
    private static final int UP = 0;
    private static final int LEFT = 1;
    private static final int RIGHT = 2;
    private static final int DOWN = 3;
    private static final int SIDES = 4;

    // A segment to the right has the number of its left junction, one downwards
    // that of its upper junction and PLACES more; some numbers are no segment's.
    private static final int SEGMENTS = 48;
    private static final int NO_SEGMENT = -1;

    private static final int NO_WAY = 1000000;
    private static final int FARTHEST = 8;
    private static final int BY_PLACES = 0;
    private static final int FARTHEST_FIRST = 1;
    private static final int ORDERS = 3;

    private static final int CAPACITY = 0;
    private static final int SURCHARGE = 1;
    private static final int MOST_CAPACITY = 4;
    private static final int MOST_SURCHARGE = 9;

    private static final int MOST_SIGNS = 80;
    private static final int NO_FAULT = -1;
    private static final int NO_SIGN = -1;
    private static final int NO_NUMBER = -1;
    private static final int FAULT_BASE = -100;
    private static final int MOST_STATES = 4;

    private final Board board = new Board();
    // Acts that may fail are tried here first, so that a failure leaves the board as it was.
    private final Board trial = new Board();
    private final Board snapshot = new Board();
    private final History history = new History();
    private final Layer layer = new Layer();
    private final Logic logic = new Logic();
    private final PlanText text = new PlanText();
    private boolean hasSnapshot = false;

    public LookupBoard() {
    }

    // ---- cells, sources

    public int put(int place, int table) {
        if (!isPlace(place)) {
            return UNKNOWN;
        }
        if (!isTable(table)) {
            return BAD_VALUE;
        }
        if (board.hasCell(place)) {
            return NOT_POSSIBLE;
        }
        history.remember(board);
        board.changeTable(place, table);
        return board.cells();
    }

    public int take(int place) {
        if (!board.hasCell(place)) {
            return UNKNOWN;
        }
        if (board.usesByOthers(place) > 0) {
            return NOT_POSSIBLE;
        }
        history.remember(board);
        board.removeCell(place);
        return board.cells();
    }

    public int setTable(int place, int table) {
        if (!board.hasCell(place)) {
            return UNKNOWN;
        }
        if (!isTable(table)) {
            return BAD_VALUE;
        }
        int previous = board.tableOf(place);
        if (previous == table) {
            return NONE;
        }
        history.remember(board);
        board.changeTable(place, table);
        return previous;
    }

    public int connect(int place, int input, int source) {
        if (!board.hasCell(place) || !isInput(input) || !board.isSource(source)) {
            return UNKNOWN;
        }
        int wire = place * INPUTS + input;
        if (board.sourceOf(wire) == source) {
            return NONE;
        }
        trial.copyFrom(board);
        trial.removeWire(wire);
        trial.changeSource(wire, source);
        if (!layer.layWire(trial, wire)) {
            return CROWDED;
        }
        acceptTrial();
        return board.lengthOf(wire);
    }

    public int swap(int one, int other) {
        int segments = trySwap(one, other);
        if (segments >= 0) {
            acceptTrial();
        }
        return segments;
    }

    public int layAnew(int order) {
        if (order < 0 || order >= ORDERS) {
            return BAD_VALUE;
        }
        int segments = tryOrder(order);
        if (segments >= 0) {
            acceptTrial();
        }
        return segments;
    }

    public int set(int which, int value) {
        if (which != CAPACITY && which != SURCHARGE) {
            return UNKNOWN;
        }
        boolean fits = which == CAPACITY
            ? value >= 1 && value <= MOST_CAPACITY
            : value >= 0 && value <= MOST_SURCHARGE;
        if (!fits) {
            return BAD_VALUE;
        }
        if (which == CAPACITY && board.mostHeld() > value) {
            return NOT_POSSIBLE;
        }
        int previous = board.setting(which);
        if (previous == value) {
            return NONE;
        }
        history.remember(board);
        board.changeSetting(which, value);
        return previous;
    }

    public int load() {
        trial.copyFrom(board);
        trial.removeAllCells();
        int fault = text.readInto(trial);
        if (fault != NO_FAULT) {
            return FAULT_BASE - fault;
        }
        if (!trial.hasAllSources()) {
            return NOT_POSSIBLE;
        }
        if (layer.layAll(trial, BY_PLACES) < 0) {
            return CROWDED;
        }
        acceptTrial();
        return board.cells();
    }

    // ---- texts

    public int type(char character) {
        return text.append(character) ? text.length() : FULL;
    }

    public int clearText() {
        int length = text.length();
        text.empty();
        return length;
    }

    // ---- history

    public int undo() {
        return history.bringBack(board) ? history.size() : NONE;
    }

    public int keep() {
        snapshot.copyFrom(board);
        hasSnapshot = true;
        return board.cells();
    }

    public int restore() {
        if (!hasSnapshot) {
            return NONE;
        }
        history.remember(board);
        board.copyFrom(snapshot);
        return board.cells();
    }

    // ---- what is told

    public int cell(int place, int what) {
        if (!board.hasCell(place)) {
            return UNKNOWN;
        }
        switch (what) {
            case 0:
                return board.tableOf(place);
            case 1:
            case 2:
            case 3:
                return board.sourceOf(place * INPUTS + what - 1);
            case 4:
                logic.study(board);
                return logic.answers(place) ? logic.depthOf(place) : NONE;
            case 5:
                return board.uses(place);
            case 6:
                return board.segmentsOfCell(place);
            default:
                return BAD_VALUE;
        }
    }

    public int path(int place, int input, int step) {
        if (!board.hasCell(place) || !isInput(input)) {
            return UNKNOWN;
        }
        if (step < 0) {
            return BAD_VALUE;
        }
        int junction = board.junctionAt(place * INPUTS + input, step);
        return junction == NOWHERE ? NONE : junction;
    }

    public int held(int one, int other) {
        int segment = segmentBetween(one, other);
        return segment == NO_SEGMENT ? UNKNOWN : board.heldBy(segment);
    }

    public int answer(int place, int bits) {
        if (!board.hasCell(place)) {
            return UNKNOWN;
        }
        if (bits < 0 || bits >= PAD_BITS) {
            return BAD_VALUE;
        }
        logic.study(board);
        if (!logic.answers(place)) {
            return NONE;
        }
        logic.work(board, bits);
        return logic.bitOf(place);
    }

    public int ones(int place) {
        if (!board.hasCell(place)) {
            return UNKNOWN;
        }
        logic.study(board);
        if (!logic.answers(place)) {
            return NONE;
        }
        int ones = 0;
        for (int bits = 0; bits < PAD_BITS; bits++) {
            logic.work(board, bits);
            ones += logic.bitOf(place);
        }
        return ones;
    }

    public int ifSwap(int one, int other) {
        return trySwap(one, other);
    }

    public int bestSwap(int place) {
        if (!board.hasCell(place)) {
            return UNKNOWN;
        }
        int fewest = board.segmentsOfAll();
        int best = NONE;
        for (int other = 0; other < PLACES; other++) {
            int segments = trySwap(place, other);
            if (segments >= 0 && segments < fewest) {
                fewest = segments;
                best = other;
            }
        }
        return best;
    }

    public int bestOrder() {
        int fewest = NO_WAY;
        int best = NONE;
        for (int order = 0; order < ORDERS; order++) {
            int segments = tryOrder(order);
            if (segments >= 0 && segments < fewest) {
                fewest = segments;
                best = order;
            }
        }
        return best;
    }

    public int count(int what) {
        switch (what) {
            case 0:
                return board.cells();
            case 1:
                return board.wires();
            case 2:
                return board.segmentsOfAll();
            case 3:
                return board.fullSegments();
            case 4:
                return board.mostHeld();
            case 5:
                logic.study(board);
                return board.cells() - logic.cellsThatAnswer();
            case 6:
                logic.study(board);
                return logic.greatestDepth();
            case 7:
                return board.setting(CAPACITY);
            case 8:
                return board.setting(SURCHARGE);
            case 9:
                return history.size();
            case 10:
                return text.length();
            default:
                return BAD_VALUE;
        }
    }

    // ---- trials

    /** Makes the trial board that behind a swap; how many segments it has, or why there is none. */
    private int trySwap(int one, int other) {
        if (!isPlace(one) || !isPlace(other)) {
            return UNKNOWN;
        }
        if (one == other || !board.hasCell(one) && !board.hasCell(other)) {
            return NONE;
        }
        trial.copyFrom(board);
        trial.exchange(one, other);
        return layer.layAll(trial, BY_PLACES);
    }

    private int tryOrder(int order) {
        trial.copyFrom(board);
        return layer.layAll(trial, order);
    }

    private void acceptTrial() {
        history.remember(board);
        board.copyFrom(trial);
    }

    // ---- numbers of places, inputs, tables, junctions and segments

    private static boolean isPlace(int number) {
        return number >= 0 && number < PLACES;
    }

    private static boolean isInput(int number) {
        return number >= 0 && number < INPUTS;
    }

    private static boolean isWire(int number) {
        return number >= 0 && number < WIRES;
    }

    private static boolean isTable(int number) {
        return number >= 0 && number < TABLES;
    }

    /** The junction at which a source lies; NOWHERE for a constant. */
    private static int junctionOf(int source) {
        if (source < 0 || source >= ZERO) {
            return NOWHERE;
        }
        if (source < FIRST_PAD) {
            return source;
        }
        if (source < FIRST_RIGHT_PAD) {
            return (source - FIRST_PAD) * COLUMNS;
        }
        return (source - FIRST_RIGHT_PAD) * COLUMNS + COLUMNS - 1;
    }

    /** The segment that leaves a junction at a side, or NO_SEGMENT at the edge of the board. */
    private static int segmentAt(int junction, int side) {
        int column = junction % COLUMNS;
        int row = junction / COLUMNS;
        switch (side) {
            case UP:
                return row > 0 ? PLACES + junction - COLUMNS : NO_SEGMENT;
            case LEFT:
                return column > 0 ? junction - 1 : NO_SEGMENT;
            case RIGHT:
                return column < COLUMNS - 1 ? junction : NO_SEGMENT;
            case DOWN:
                return row < ROWS - 1 ? PLACES + junction : NO_SEGMENT;
            default:
                return NO_SEGMENT;
        }
    }

    private static int segmentBetween(int one, int other) {
        if (!isPlace(one) || !isPlace(other)) {
            return NO_SEGMENT;
        }
        for (int side = 0; side < SIDES; side++) {
            if (one + STEPS[side] == other) {
                return segmentAt(one, side);
            }
        }
        return NO_SEGMENT;
    }

    private static int distanceBetween(int one, int other) {
        return Math.abs(one % COLUMNS - other % COLUMNS) + Math.abs(one / COLUMNS - other / COLUMNS);
    }

    /** One state: the cells, their sources, the wires that are laid, and the settings. */
    private static final class Board {
        private final int[] tables = new int[PLACES];
        // The input i of the cell p, and its wire, have the number p * INPUTS + i.
        private final int[] sources = new int[WIRES];
        private final int[] lengths = new int[WIRES];
        // The wire w goes over the junctions from the index w * PLACES on, one more than its length.
        private final int[] junctions = new int[WIRES * PLACES];
        private final int[] wiresHeld = new int[SEGMENTS];
        private int capacity = 2;
        private int surcharge = 1;

        Board() {
            Arrays.fill(tables, NO_CELL);
            Arrays.fill(sources, ZERO);
        }

        void copyFrom(Board other) {
            System.arraycopy(other.tables, 0, tables, 0, PLACES);
            System.arraycopy(other.sources, 0, sources, 0, WIRES);
            System.arraycopy(other.lengths, 0, lengths, 0, WIRES);
            System.arraycopy(other.junctions, 0, junctions, 0, WIRES * PLACES);
            System.arraycopy(other.wiresHeld, 0, wiresHeld, 0, SEGMENTS);
            capacity = other.capacity;
            surcharge = other.surcharge;
        }

        // -- cells and sources

        boolean hasCell(int place) {
            return isPlace(place) && tables[place] != NO_CELL;
        }

        int tableOf(int place) {
            return isPlace(place) ? tables[place] : NO_CELL;
        }

        void changeTable(int place, int table) {
            if (isPlace(place)) {
                tables[place] = table;
            }
        }

        int sourceOf(int wire) {
            return isWire(wire) ? sources[wire] : ZERO;
        }

        void changeSource(int wire, int source) {
            if (isWire(wire)) {
                sources[wire] = source;
            }
        }

        boolean isSource(int source) {
            return hasCell(source) || source >= FIRST_PAD && source <= ONE;
        }

        boolean hasAllSources() {
            for (int wire = 0; wire < WIRES; wire++) {
                if (!isSource(sources[wire])) {
                    return false;
                }
            }
            return true;
        }

        void removeCell(int place) {
            for (int input = 0; input < INPUTS; input++) {
                removeWire(place * INPUTS + input);
                changeSource(place * INPUTS + input, ZERO);
            }
            changeTable(place, NO_CELL);
        }

        void removeAllCells() {
            removeAllWires();
            Arrays.fill(tables, NO_CELL);
            Arrays.fill(sources, ZERO);
        }

        int cells() {
            int cells = 0;
            for (int place = 0; place < PLACES; place++) {
                cells += hasCell(place) ? 1 : 0;
            }
            return cells;
        }

        int uses(int place) {
            int uses = 0;
            for (int wire = 0; wire < WIRES; wire++) {
                uses += sources[wire] == place ? 1 : 0;
            }
            return uses;
        }

        int usesByOthers(int place) {
            int uses = uses(place);
            for (int input = 0; input < INPUTS; input++) {
                uses -= sourceOf(place * INPUTS + input) == place ? 1 : 0;
            }
            return uses;
        }

        /** Changes what stands at two places; the wires are to be laid anew behind it. */
        void exchange(int one, int other) {
            int table = tableOf(one);
            changeTable(one, tableOf(other));
            changeTable(other, table);
            for (int input = 0; input < INPUTS; input++) {
                int source = sourceOf(one * INPUTS + input);
                changeSource(one * INPUTS + input, sourceOf(other * INPUTS + input));
                changeSource(other * INPUTS + input, source);
            }
            for (int wire = 0; wire < WIRES; wire++) {
                if (sources[wire] == one) {
                    sources[wire] = other;
                } else if (sources[wire] == other) {
                    sources[wire] = one;
                }
            }
        }

        // -- wires

        int wires() {
            int wires = 0;
            for (int wire = 0; wire < WIRES; wire++) {
                wires += junctionOf(sources[wire]) != NOWHERE ? 1 : 0;
            }
            return wires;
        }

        int lengthOf(int wire) {
            return isWire(wire) ? lengths[wire] : 0;
        }

        int segmentsOfCell(int place) {
            int segments = 0;
            for (int input = 0; input < INPUTS; input++) {
                segments += lengthOf(place * INPUTS + input);
            }
            return segments;
        }

        int segmentsOfAll() {
            int segments = 0;
            for (int wire = 0; wire < WIRES; wire++) {
                segments += lengths[wire];
            }
            return segments;
        }

        /** How far the ends of a wire lie from each other; NOWHERE if the input has none. */
        int distanceOf(int wire) {
            int from = junctionOf(sourceOf(wire));
            return from == NOWHERE ? NOWHERE : distanceBetween(from, wire / INPUTS);
        }

        /** The junction at a step of a wire, or NOWHERE if the wire has not so many. */
        int junctionAt(int wire, int step) {
            boolean there = junctionOf(sourceOf(wire)) != NOWHERE && step >= 0 && step <= lengthOf(wire);
            int index = there ? wire * PLACES + step : NOWHERE;
            return index >= 0 && index < junctions.length ? junctions[index] : NOWHERE;
        }

        void startWire(int wire, int junction) {
            if (isWire(wire)) {
                lengths[wire] = 0;
                junctions[wire * PLACES] = junction;
            }
        }

        void extendWire(int wire, int junction) {
            if (!isWire(wire) || lengths[wire] < 0 || lengths[wire] >= PLACES - 1) {
                return;
            }
            int segment = segmentBetween(junctions[wire * PLACES + lengths[wire]], junction);
            if (segment == NO_SEGMENT) {
                return;
            }
            lengths[wire]++;
            junctions[wire * PLACES + lengths[wire]] = junction;
            wiresHeld[segment]++;
        }

        void removeWire(int wire) {
            for (int step = lengthOf(wire); step > 0; step--) {
                int segment = segmentBetween(junctionAt(wire, step - 1), junctionAt(wire, step));
                if (segment != NO_SEGMENT) {
                    wiresHeld[segment]--;
                }
            }
            if (isWire(wire)) {
                lengths[wire] = 0;
            }
        }

        void removeAllWires() {
            Arrays.fill(lengths, 0);
            Arrays.fill(wiresHeld, 0);
        }

        // -- segments and settings

        int heldBy(int segment) {
            return segment >= 0 && segment < SEGMENTS ? wiresHeld[segment] : 0;
        }

        /** What one more wire costs at a segment; NO_WAY if it holds as many as it can. */
        int priceOf(int segment) {
            if (segment < 0 || segment >= SEGMENTS || wiresHeld[segment] >= capacity) {
                return NO_WAY;
            }
            return 1 + surcharge * wiresHeld[segment];
        }

        int fullSegments() {
            int full = 0;
            for (int segment = 0; segment < SEGMENTS; segment++) {
                full += wiresHeld[segment] >= capacity ? 1 : 0;
            }
            return full;
        }

        int mostHeld() {
            int most = 0;
            for (int segment = 0; segment < SEGMENTS; segment++) {
                most = Math.max(most, wiresHeld[segment]);
            }
            return most;
        }

        int setting(int which) {
            return which == CAPACITY ? capacity : surcharge;
        }

        void changeSetting(int which, int value) {
            if (which == CAPACITY) {
                capacity = value;
            } else {
                surcharge = value;
            }
        }
    }

    /** Finds the cheapest paths and lays the wires along them. */
    private static final class Layer {
        // What the cheapest path costs from each junction to the end of the wire.
        private final int[] costs = new int[PLACES];

        /** Lays all wires anew; how many segments they have then, or CROWDED. */
        int layAll(Board board, int order) {
            board.removeAllWires();
            for (int turn = 0; turn <= FARTHEST; turn++) {
                int distance = order == FARTHEST_FIRST ? FARTHEST - turn : turn;
                for (int wire = 0; wire < WIRES; wire++) {
                    boolean due = order == BY_PLACES ? turn == 0 : board.distanceOf(wire) == distance;
                    if (due && !layWire(board, wire)) {
                        return CROWDED;
                    }
                }
            }
            return board.segmentsOfAll();
        }

        /** Lays one wire that is not laid; false, and nothing laid, if it finds no path. */
        boolean layWire(Board board, int wire) {
            int from = junctionOf(board.sourceOf(wire));
            if (!isPlace(from)) {
                return true;
            }
            int to = wire / INPUTS;
            measureCosts(board, to);
            if (costs[from] >= NO_WAY) {
                return false;
            }
            board.startWire(wire, from);
            int at = from;
            for (int step = 1; step < PLACES && at != to; step++) {
                at = nextJunction(board, at);
                board.extendWire(wire, at);
            }
            return true;
        }

        private void measureCosts(Board board, int to) {
            Arrays.fill(costs, NO_WAY);
            if (isPlace(to)) {
                costs[to] = 0;
            }
            boolean more = true;
            for (int round = 0; round < PLACES && more; round++) {
                more = false;
                for (int at = 0; at < PLACES; at++) {
                    for (int side = 0; side < SIDES; side++) {
                        int cost = costOver(board, at, side);
                        if (cost < costs[at]) {
                            costs[at] = cost;
                            more = true;
                        }
                    }
                }
            }
        }

        /** What the cheapest path costs that leaves a junction at a side; NO_WAY or more if there is none. */
        private int costOver(Board board, int at, int side) {
            int segment = segmentAt(at, side);
            int next = at + STEPS[side];
            return segment == NO_SEGMENT || !isPlace(next) ? NO_WAY : board.priceOf(segment) + costs[next];
        }

        // The sides lead to ascending junctions: the first cheapest one is the lowest.
        private int nextJunction(Board board, int at) {
            if (!isPlace(at)) {
                return NOWHERE;
            }
            for (int side = 0; side < SIDES; side++) {
                if (costOver(board, at, side) == costs[at]) {
                    return at + STEPS[side];
                }
            }
            return NOWHERE;
        }
    }

    /** Finds which cells answer something, how deep they are, and what they answer. */
    private static final class Logic {
        // The depth is 0 for a place whose cell answers nothing, or that has none.
        private final int[] depths = new int[PLACES];
        private final int[] bits = new int[PLACES];
        // The places of cells that answer, each behind those that it hangs on.
        private final int[] sequence = new int[PLACES];
        private int settled = 0;

        /** Is to be called ahead of all the others, whenever the board may have changed. */
        void study(Board board) {
            Arrays.fill(depths, 0);
            settled = 0;
            boolean more = true;
            for (int round = 0; round < PLACES && more; round++) {
                more = settleSome(board);
            }
        }

        // Cells on a circle, and those behind one, are never settled: they answer nothing.
        private boolean settleSome(Board board) {
            int before = settled;
            for (int place = 0; place < PLACES; place++) {
                int depth = board.hasCell(place) && depths[place] == 0 ? depthBySources(board, place) : 0;
                if (depth > 0 && settled < sequence.length) {
                    depths[place] = depth;
                    sequence[settled] = place;
                    settled++;
                }
            }
            return settled > before;
        }

        private int depthBySources(Board board, int place) {
            int depth = 1;
            for (int input = 0; input < INPUTS; input++) {
                int source = board.sourceOf(place * INPUTS + input);
                if (isPlace(source)) {
                    if (depths[source] == 0) {
                        return 0;
                    }
                    depth = Math.max(depth, depths[source] + 1);
                }
            }
            return depth;
        }

        /** Works out what all cells answer for bits at the pads. */
        void work(Board board, int padBits) {
            for (int index = 0; index < settled && index < sequence.length; index++) {
                int place = sequence[index];
                int number = 0;
                for (int input = 0; input < INPUTS; input++) {
                    number |= sourceBit(board.sourceOf(place * INPUTS + input), padBits) << input;
                }
                if (isPlace(place)) {
                    bits[place] = board.tableOf(place) >> number & 1;
                }
            }
        }

        private int sourceBit(int source, int padBits) {
            if (isPlace(source)) {
                return bits[source];
            }
            if (source >= FIRST_PAD && source < ZERO) {
                return padBits >> source - FIRST_PAD & 1;
            }
            return source == ONE ? 1 : 0;
        }

        boolean answers(int place) {
            return depthOf(place) > 0;
        }

        int depthOf(int place) {
            return isPlace(place) ? depths[place] : 0;
        }

        int bitOf(int place) {
            return isPlace(place) ? bits[place] : 0;
        }

        int cellsThatAnswer() {
            return settled;
        }

        int greatestDepth() {
            int greatest = 0;
            for (int place = 0; place < PLACES; place++) {
                greatest = Math.max(greatest, depths[place]);
            }
            return greatest;
        }
    }

    /** The text, and the reading of it as a plan. */
    private static final class PlanText {
        private final char[] signs = new char[MOST_SIGNS];
        private int length = 0;
        // Where the reading stands: a fault is always the sign at which it can't go on.
        private int at = 0;

        int length() {
            return length;
        }

        boolean append(char sign) {
            if (length >= signs.length) {
                return false;
            }
            signs[length] = sign;
            length++;
            return true;
        }

        void empty() {
            length = 0;
        }

        /** Puts the cells of the plan onto a board without laying wires; the fault, or NO_FAULT. */
        int readInto(Board board) {
            at = 0;
            for (int cell = 0; cell < MOST_SIGNS; cell++) {
                if (!readCell(board)) {
                    return at;
                }
                if (at == length) {
                    return NO_FAULT;
                }
                if (!pass(';')) {
                    return at;
                }
            }
            return at;
        }

        private boolean readCell(Board board) {
            int place = readNumber(PLACES - 1);
            if (place == NO_NUMBER || !pass('=')) {
                return false;
            }
            int high = readTableSign();
            int low = high == NO_NUMBER ? NO_NUMBER : readTableSign();
            if (low == NO_NUMBER) {
                return false;
            }
            board.changeTable(place, high * 16 + low);
            for (int input = 0; input < INPUTS; input++) {
                int source = pass('/') ? readSource() : ZERO;
                if (source == NO_NUMBER) {
                    return false;
                }
                board.changeSource(place * INPUTS + input, source);
            }
            return true;
        }

        private int readSource() {
            if (pass('c')) {
                return readNumber(PLACES - 1);
            }
            if (pass('p')) {
                int pad = readNumber(ZERO - FIRST_PAD - 1);
                return pad == NO_NUMBER ? NO_NUMBER : FIRST_PAD + pad;
            }
            if (pass('0')) {
                return ZERO;
            }
            return pass('1') ? ONE : NO_NUMBER;
        }

        /** Reads a number of one or two digits that is not greater than told. */
        private int readNumber(int most) {
            int number = digitHere();
            if (number == NO_NUMBER || number > most) {
                return NO_NUMBER;
            }
            at++;
            int digit = digitHere();
            if (number > 0 && digit != NO_NUMBER && number * 10 + digit <= most) {
                number = number * 10 + digit;
                at++;
            }
            return number;
        }

        private int readTableSign() {
            int sign = signHere();
            int number = sign >= 'a' && sign <= 'f' ? sign - 'a' + 10 : digitHere();
            if (number != NO_NUMBER) {
                at++;
            }
            return number;
        }

        private int digitHere() {
            int sign = signHere();
            return sign >= '0' && sign <= '9' ? sign - '0' : NO_NUMBER;
        }

        private boolean pass(char sign) {
            if (signHere() != sign) {
                return false;
            }
            at++;
            return true;
        }

        private int signHere() {
            return at >= 0 && at < length && at < signs.length ? signs[at] : NO_SIGN;
        }
    }

    /** The latest states, the oldest one first. */
    private static final class History {
        private final Board[] states = new Board[MOST_STATES];
        private int size = 0;

        History() {
            for (int index = 0; index < MOST_STATES; index++) {
                states[index] = new Board();
            }
        }

        int size() {
            return size;
        }

        void remember(Board board) {
            if (size >= MOST_STATES) {
                dropOldest();
            }
            Board state = stateAt(size);
            if (state != null) {
                state.copyFrom(board);
                size++;
            }
        }

        /** Makes a board that of the latest state, which goes; false if there is none. */
        boolean bringBack(Board board) {
            Board state = stateAt(size - 1);
            if (state == null) {
                return false;
            }
            board.copyFrom(state);
            size--;
            return true;
        }

        // The oldest state's object goes to the end, where the next state is written into it.
        private void dropOldest() {
            Board oldest = states[0];
            for (int index = 1; index < MOST_STATES; index++) {
                states[index - 1] = states[index];
            }
            states[MOST_STATES - 1] = oldest;
            size = MOST_STATES - 1;
        }

        private Board stateAt(int index) {
            return index >= 0 && index < states.length ? states[index] : null;
        }
    }
}
