import java.util.ArrayDeque;
import java.util.ArrayList;
import java.util.Arrays;
import java.util.Comparator;
import java.util.HashSet;
import java.util.List;
import java.util.Set;
import java.util.TreeMap;
import java.util.regex.Matcher;
import java.util.regex.Pattern;

/** Runs of made-up calls, each answer told beforehand by a model that works otherwise. */
public final class ModelTests {
    private static final int CALLS = 512;

    /** A cell of the model: a null path is that of an input without a wire. */
    private static final class Cell {
        int table;
        int[] sources = {32, 32, 32};
        List<List<Integer>> paths = new ArrayList<>(Arrays.asList(null, null, null));

        Cell(int table) {
            this.table = table;
        }

        Cell copy() {
            Cell copy = new Cell(table);
            copy.sources = sources.clone();
            copy.paths = new ArrayList<>(paths);
            return copy;
        }
    }

    private static final class State {
        TreeMap<Integer, Cell> cells = new TreeMap<>();
        int most = 2;
        int extra = 1;

        State copy() {
            State copy = new State();
            cells.forEach((place, cell) -> copy.cells.put(place, cell.copy()));
            copy.most = most;
            copy.extra = extra;
            return copy;
        }

        int held(int one, int other) {
            int held = 0;
            for (Cell cell : cells.values()) {
                for (List<Integer> path : cell.paths) {
                    for (int step = 1; path != null && step < path.size(); step++) {
                        int from = path.get(step - 1);
                        int to = path.get(step);
                        held += from == one && to == other || from == other && to == one ? 1 : 0;
                    }
                }
            }
            return held;
        }

        int[][] heldTable() {
            int[][] held = new int[24][24];
            for (Cell cell : cells.values()) {
                for (List<Integer> path : cell.paths) {
                    for (int step = 1; path != null && step < path.size(); step++) {
                        held[path.get(step - 1)][path.get(step)]++;
                        held[path.get(step)][path.get(step - 1)]++;
                    }
                }
            }
            return held;
        }

        int segments() {
            int segments = 0;
            for (int place : cells.keySet()) {
                segments += segmentsOf(place);
            }
            return segments;
        }

        int segmentsOf(int place) {
            int segments = 0;
            for (List<Integer> path : cells.get(place).paths) {
                segments += path == null ? 0 : path.size() - 1;
            }
            return segments;
        }
    }

    private static int junction(int source) {
        int[] pads = {0, 6, 12, 18, 5, 11, 17, 23};
        return source < 24 ? source : source < 32 ? pads[source - 24] : -1;
    }

    private static boolean beside(int one, int other) {
        return Math.abs(one % 6 - other % 6) + Math.abs(one / 6 - other / 6) == 1;
    }

    private static int apart(int one, int other) {
        return Math.abs(one % 6 - other % 6) + Math.abs(one / 6 - other / 6);
    }

    /** Tries all paths in the order of their junctions; the first of the cheapest ones stays. */
    private static final class Search {
        final State state;
        final int[][] held;
        final int to;
        int least = Integer.MAX_VALUE;
        List<Integer> best = null;
        final List<Integer> path = new ArrayList<>();
        final boolean[] seen = new boolean[24];

        Search(State state, int from, int to) {
            this.state = state;
            this.held = state.heldTable();
            this.to = to;
            go(from, 0);
        }

        void go(int at, int cost) {
            if (best != null && cost + apart(at, to) >= least) {
                return;
            }
            path.add(at);
            seen[at] = true;
            if (at == to) {
                best = new ArrayList<>(path);
                least = cost;
            } else {
                for (int next = 0; next < 24; next++) {
                    if (beside(at, next) && !seen[next] && held[at][next] < state.most) {
                        go(next, cost + 1 + state.extra * held[at][next]);
                    }
                }
            }
            seen[at] = false;
            path.remove(path.size() - 1);
        }
    }

    private static boolean lay(State state, int place, int input) {
        Cell cell = state.cells.get(place);
        int from = junction(cell.sources[input]);
        cell.paths.set(input, null);
        if (from >= 0) {
            cell.paths.set(input, new Search(state, from, place).best);
        }
        return from < 0 || cell.paths.get(input) != null;
    }

    private static boolean layAll(State state, int order) {
        List<int[]> wires = new ArrayList<>();
        for (int place : state.cells.keySet()) {
            for (int input = 0; input < 3; input++) {
                int from = junction(state.cells.get(place).sources[input]);
                state.cells.get(place).paths.set(input, null);
                if (from >= 0) {
                    wires.add(new int[] {place, input, apart(from, place)});
                }
            }
        }
        if (order != 0) {
            wires.sort(Comparator.comparingInt(wire -> order == 1 ? -wire[2] : wire[2]));
        }
        for (int[] wire : wires) {
            if (!lay(state, wire[0], wire[1])) {
                return false;
            }
        }
        return true;
    }

    /** What the board is due to answer. */
    private static final class Model {
        static final String NUMBER = "(?:1\\d|2[0-3]|\\d)";
        static final String CELL = NUMBER + "=[0-9a-f]{2}(?:/(?:c" + NUMBER + "|p[0-7]|[01])){0,3}";
        static final Pattern PLAN = Pattern.compile(CELL + "(?:;" + CELL + ")*");

        State now = new State();
        State kept = null;
        final ArrayDeque<State> history = new ArrayDeque<>();
        String text = "";

        void act(State next) {
            history.addLast(now);
            if (history.size() > 4) {
                history.removeFirst();
            }
            now = next;
        }

        static boolean in(int number, int least, int most) {
            return number >= least && number <= most;
        }

        boolean stands(int place) {
            return now.cells.containsKey(place);
        }

        int put(int place, int table) {
            if (!in(place, 0, 23)) {
                return -1;
            }
            if (!in(table, 0, 255)) {
                return -2;
            }
            if (stands(place)) {
                return -4;
            }
            State next = now.copy();
            next.cells.put(place, new Cell(table));
            act(next);
            return now.cells.size();
        }

        int take(int place) {
            if (!stands(place)) {
                return -1;
            }
            State next = now.copy();
            next.cells.remove(place);
            for (Cell cell : next.cells.values()) {
                for (int source : cell.sources) {
                    if (source == place) {
                        return -4;
                    }
                }
            }
            act(next);
            return now.cells.size();
        }

        int setTable(int place, int table) {
            if (!stands(place)) {
                return -1;
            }
            if (!in(table, 0, 255)) {
                return -2;
            }
            int before = now.cells.get(place).table;
            if (before == table) {
                return -5;
            }
            State next = now.copy();
            next.cells.get(place).table = table;
            act(next);
            return before;
        }

        int connect(int place, int input, int source) {
            if (!stands(place) || !in(input, 0, 2) || !in(source, 0, 33) || source < 24 && !stands(source)) {
                return -1;
            }
            if (now.cells.get(place).sources[input] == source) {
                return -5;
            }
            State next = now.copy();
            next.cells.get(place).sources[input] = source;
            if (!lay(next, place, input)) {
                return -3;
            }
            act(next);
            List<Integer> path = next.cells.get(place).paths.get(input);
            return path == null ? 0 : path.size() - 1;
        }

        State swapped(int one, int other) {
            State next = now.copy();
            next.cells.clear();
            for (int place : now.cells.keySet()) {
                Cell cell = now.cells.get(place).copy();
                for (int input = 0; input < 3; input++) {
                    cell.sources[input] = moved(cell.sources[input], one, other);
                }
                next.cells.put(moved(place, one, other), cell);
            }
            return next;
        }

        static int moved(int place, int one, int other) {
            return place == one ? other : place == other ? one : place;
        }

        int trySwap(int one, int other, boolean forReal) {
            if (!in(one, 0, 23) || !in(other, 0, 23)) {
                return -1;
            }
            if (one == other || !stands(one) && !stands(other)) {
                return -5;
            }
            State next = swapped(one, other);
            if (!layAll(next, 0)) {
                return -3;
            }
            if (forReal) {
                act(next);
            }
            return next.segments();
        }

        int tryOrder(int order, boolean forReal) {
            if (!in(order, 0, 2)) {
                return -2;
            }
            State next = now.copy();
            if (!layAll(next, order)) {
                return -3;
            }
            if (forReal) {
                act(next);
            }
            return next.segments();
        }

        int set(int which, int value) {
            if (!in(which, 0, 1)) {
                return -1;
            }
            if (which == 0 ? !in(value, 1, 4) : !in(value, 0, 9)) {
                return -2;
            }
            if (which == 0 && count(4) > value) {
                return -4;
            }
            int before = which == 0 ? now.most : now.extra;
            if (before == value) {
                return -5;
            }
            State next = now.copy();
            if (which == 0) {
                next.most = value;
            } else {
                next.extra = value;
            }
            act(next);
            return before;
        }

        int fault() {
            for (int length = 1; length <= text.length(); length++) {
                Matcher matcher = PLAN.matcher(text.substring(0, length));
                if (!matcher.matches() && !matcher.hitEnd()) {
                    return length - 1;
                }
            }
            return PLAN.matcher(text).matches() ? -1 : text.length();
        }

        int load() {
            int fault = fault();
            if (fault >= 0) {
                return -100 - fault;
            }
            State next = now.copy();
            next.cells.clear();
            for (String part : text.split(";")) {
                String[] parts = part.split("[=/]");
                Cell cell = new Cell(Integer.parseInt(parts[1], 16));
                for (int input = 0; input + 2 < parts.length; input++) {
                    cell.sources[input] = source(parts[input + 2]);
                }
                next.cells.put(Integer.parseInt(parts[0]), cell);
            }
            for (Cell cell : next.cells.values()) {
                for (int source : cell.sources) {
                    if (source < 24 && !next.cells.containsKey(source)) {
                        return -4;
                    }
                }
            }
            if (!layAll(next, 0)) {
                return -3;
            }
            act(next);
            return next.cells.size();
        }

        static int source(String part) {
            if (part.startsWith("c")) {
                return Integer.parseInt(part.substring(1));
            }
            return part.startsWith("p") ? 24 + Integer.parseInt(part.substring(1)) : 32 + Integer.parseInt(part);
        }

        int type(char sign) {
            if (text.length() == 80) {
                return -6;
            }
            text += sign;
            return text.length();
        }

        int clearText() {
            int length = text.length();
            text = "";
            return length;
        }

        int undo() {
            if (history.isEmpty()) {
                return -5;
            }
            now = history.removeLast();
            return history.size();
        }

        int keep() {
            kept = now.copy();
            return now.cells.size();
        }

        int restore() {
            if (kept == null) {
                return -5;
            }
            act(kept.copy());
            return now.cells.size();
        }

        /** The cells that one hangs on, over one source or more. */
        Set<Integer> below(int place) {
            Set<Integer> below = new HashSet<>();
            ArrayDeque<Integer> open = new ArrayDeque<>();
            open.add(place);
            while (!open.isEmpty()) {
                for (int source : now.cells.get(open.remove()).sources) {
                    if (source < 24 && below.add(source)) {
                        open.add(source);
                    }
                }
            }
            return below;
        }

        boolean answers(int place) {
            Set<Integer> below = below(place);
            below.add(place);
            for (int one : below) {
                if (below(one).contains(one)) {
                    return false;
                }
            }
            return true;
        }

        int depth(int place) {
            int depth = 1;
            for (int source : now.cells.get(place).sources) {
                depth = source < 24 ? Math.max(depth, 1 + depth(source)) : depth;
            }
            return depth;
        }

        int value(int source, int bits, int[] known) {
            if (source >= 24) {
                return source == 32 ? 0 : source == 33 ? 1 : bits >> source - 24 & 1;
            }
            if (known[source] < 0) {
                Cell cell = now.cells.get(source);
                int number = value(cell.sources[0], bits, known) + 2 * value(cell.sources[1], bits, known)
                    + 4 * value(cell.sources[2], bits, known);
                known[source] = (cell.table & 1 << number) == 0 ? 0 : 1;
            }
            return known[source];
        }

        int bit(int place, int bits) {
            int[] known = new int[24];
            Arrays.fill(known, -1);
            return value(place, bits, known);
        }

        int cell(int place, int what) {
            if (!stands(place)) {
                return -1;
            }
            Cell cell = now.cells.get(place);
            if (!in(what, 0, 6)) {
                return -2;
            }
            if (what == 0) {
                return cell.table;
            }
            if (what <= 3) {
                return cell.sources[what - 1];
            }
            if (what == 4) {
                return answers(place) ? depth(place) : -5;
            }
            if (what == 6) {
                return now.segmentsOf(place);
            }
            int uses = 0;
            for (Cell other : now.cells.values()) {
                for (int source : other.sources) {
                    uses += source == place ? 1 : 0;
                }
            }
            return uses;
        }

        int path(int place, int input, int step) {
            if (!stands(place) || !in(input, 0, 2)) {
                return -1;
            }
            if (step < 0) {
                return -2;
            }
            List<Integer> path = now.cells.get(place).paths.get(input);
            return path == null || step >= path.size() ? -5 : path.get(step);
        }

        int held(int one, int other) {
            return in(one, 0, 23) && in(other, 0, 23) && beside(one, other) ? now.held(one, other) : -1;
        }

        int answer(int place, int bits) {
            if (!stands(place)) {
                return -1;
            }
            if (!in(bits, 0, 255)) {
                return -2;
            }
            return answers(place) ? bit(place, bits) : -5;
        }

        int ones(int place) {
            if (!stands(place)) {
                return -1;
            }
            int ones = 0;
            for (int bits = 0; answers(place) && bits < 256; bits++) {
                ones += bit(place, bits);
            }
            return answers(place) ? ones : -5;
        }

        int bestSwap(int place) {
            if (!stands(place)) {
                return -1;
            }
            int best = -5;
            int fewest = now.segments();
            for (int other = 23; other >= 0; other--) {
                int segments = trySwap(place, other, false);
                if (segments >= 0 && (segments < fewest || segments == fewest && best >= 0)) {
                    best = other;
                    fewest = segments;
                }
            }
            return best;
        }

        int bestOrder() {
            int best = -5;
            for (int order = 2; order >= 0; order--) {
                int segments = tryOrder(order, false);
                if (segments >= 0 && (best < 0 || segments <= tryOrder(best, false))) {
                    best = order;
                }
            }
            return best;
        }

        int count(int what) {
            int wires = 0;
            int full = 0;
            int most = 0;
            int silent = 0;
            int deepest = 0;
            for (int place : now.cells.keySet()) {
                for (int source : now.cells.get(place).sources) {
                    wires += source < 32 ? 1 : 0;
                }
                silent += answers(place) ? 0 : 1;
                deepest = Math.max(deepest, answers(place) ? depth(place) : 0);
            }
            int[][] held = now.heldTable();
            for (int one = 0; one < 24; one++) {
                for (int other = one + 1; other < 24; other++) {
                    full += held[one][other] >= now.most ? 1 : 0;
                    most = Math.max(most, held[one][other]);
                }
            }
            int[] counts = {now.cells.size(), wires, now.segments(), full, most, silent, deepest, now.most,
                now.extra, history.size(), text.length()};
            return in(what, 0, 10) ? counts[what] : -2;
        }
    }

    /** Makes up the calls of one run, and compares their answers. */
    private static final class Run {
        static int calls = 0;
        static int[] errors = new int[32];

        final LookupBoard board = new LookupBoard();
        final Model model = new Model();
        final StringBuilder log = new StringBuilder();
        final int kind;
        long seed;
        boolean wrong = false;
        int made = 0;

        Run(long number) {
            seed = number * 0x9E3779B97F4A7C15L + 12345;
            kind = (int) (number % 4);
        }

        int below(int bound) {
            seed = seed * 6364136223846793005L + 1442695040888963407L;
            return (int) ((seed >>> 33) % bound);
        }

        int strange() {
            int[] numbers = {Integer.MIN_VALUE, Integer.MAX_VALUE, -1, -2, 24, 25, 33, 34, 72, 255, 256, 257, 3, 4,
                10, 11, -24, Integer.MIN_VALUE + 1, 1 << 30, 0};
            return numbers[below(numbers.length)];
        }

        int number(int bound) {
            return below(25) == 0 ? strange() : below(bound);
        }

        int place() {
            int few = below(4);
            if (few > 0 && !model.now.cells.isEmpty()) {
                List<Integer> places = new ArrayList<>(model.now.cells.keySet());
                return below(30) == 0 ? strange() : places.get(below(places.size()));
            }
            // The boards of the kinds 2 and 3 are small and crowded.
            int[] corner = {0, 1, 2, 6, 7, 8, 12, 13};
            return kind >= 2 ? corner[below(corner.length)] : number(24);
        }

        int source() {
            int kind = below(8);
            return kind < 4 ? place() : kind < 7 ? 24 + below(8) : number(34);
        }

        void due(String call, int got, int want) {
            made++;
            calls++;
            errors[want < 0 && want > -7 ? -want : 0]++;
            log.append(call).append(" = ").append(got).append('\n');
            if (got != want && !wrong) {
                wrong = true;
                System.out.print(log);
                System.out.println(call + " answered " + got + ", due is " + want);
            }
        }

        void go() {
            if (kind >= 2) {
                due("set(0, 1)", board.set(0, 1), model.set(0, 1));
            }
            while (made < CALLS - 100 && !wrong) {
                int choice = below(100);
                if (choice < 62) {
                    change(choice);
                } else if (choice < 66) {
                    loadText();
                } else {
                    ask(choice);
                }
            }
            askAll();
        }

        void change(int choice) {
            int a = place();
            int b = number(256);
            if (choice < 12) {
                a = below(2) == 0 ? number(24) : a;
                due("put(" + a + ", " + b + ")", board.put(a, b), model.put(a, b));
            } else if (choice < 15) {
                due("take(" + a + ")", board.take(a), model.take(a));
            } else if (choice < 18) {
                b = below(4) == 0 && model.stands(a) ? model.now.cells.get(a).table : b;
                due("setTable(" + a + ", " + b + ")", board.setTable(a, b), model.setTable(a, b));
            } else if (choice < 46) {
                int input = number(3);
                int source = source();
                due("connect(" + a + ", " + input + ", " + source + ")", board.connect(a, input, source),
                    model.connect(a, input, source));
            } else if (choice < 49) {
                int other = below(2) == 0 ? place() : number(24);
                due("swap(" + a + ", " + other + ")", board.swap(a, other), model.trySwap(a, other, true));
            } else if (choice < 52) {
                int order = number(3);
                due("layAnew(" + order + ")", board.layAnew(order), model.tryOrder(order, true));
            } else if (choice < 55) {
                int which = number(2);
                int value = which == 0 ? number(kind == 3 ? 3 : 6) : number(10);
                due("set(" + which + ", " + value + ")", board.set(which, value), model.set(which, value));
            } else if (choice < 59) {
                due("undo()", board.undo(), model.undo());
            } else if (choice < 60) {
                due("keep()", board.keep(), model.keep());
            } else if (choice < 61) {
                due("restore()", board.restore(), model.restore());
            }
        }

        void loadText() {
            if (below(5) > 0) {
                due("clearText()", board.clearText(), model.clearText());
            }
            String text = plan();
            for (int index = 0; index < text.length() && made < CALLS - 101; index++) {
                char sign = text.charAt(index);
                due("type((char) " + (int) sign + ")", board.type(sign), model.type(sign));
            }
            due("load() of " + model.text, board.load(), model.load());
        }

        String plan() {
            StringBuilder plan = new StringBuilder();
            int cells = 1 + below(4);
            for (int cell = 0; cell < cells; cell++) {
                plan.append(cell > 0 ? ";" : "").append(below(6) * (1 + below(4))).append('=');
                plan.append(Integer.toHexString(256 + below(256)).substring(1));
                int inputs = below(4);
                for (int input = 0; input < inputs; input++) {
                    int kind = below(5);
                    plan.append('/').append(kind == 0 ? "0" : kind == 1 ? "1" : "");
                    plan.append(kind == 2 ? "c" + below(6) * (1 + below(4)) : kind > 2 ? "p" + below(8) : "");
                }
            }
            String signs = "0123456789abcdefgpcA=;/ ~\u013d";
            for (int faults = below(4); faults > 2; faults--) {
                int at = below(plan.length());
                if (below(2) == 0) {
                    plan.setCharAt(at, signs.charAt(below(signs.length())));
                } else {
                    plan.insert(at, signs.charAt(below(signs.length())));
                }
            }
            return below(8) == 0 ? plan.substring(0, below(plan.length())) : plan.toString();
        }

        void ask(int choice) {
            int a = place();
            int b = below(2) == 0 ? place() : number(24);
            if (choice < 72) {
                int what = number(8) - 0;
                due("cell(" + a + ", " + what + ")", board.cell(a, what), model.cell(a, what));
            } else if (choice < 80) {
                int input = number(3);
                int step = number(12) - 1;
                due("path(" + a + ", " + input + ", " + step + ")", board.path(a, input, step),
                    model.path(a, input, step));
            } else if (choice < 83) {
                b = below(2) == 0 ? b : a + new int[] {1, -1, 6, -6}[below(4)];
                due("held(" + a + ", " + b + ")", board.held(a, b), model.held(a, b));
            } else if (choice < 86) {
                int bits = number(256);
                due("answer(" + a + ", " + bits + ")", board.answer(a, bits), model.answer(a, bits));
            } else if (choice < 88) {
                due("ones(" + a + ")", board.ones(a), model.ones(a));
            } else if (choice < 92) {
                due("ifSwap(" + a + ", " + b + ")", board.ifSwap(a, b), model.trySwap(a, b, false));
            } else if (choice < 93) {
                due("bestSwap(" + a + ")", board.bestSwap(a), model.bestSwap(a));
            } else if (choice < 94) {
                due("bestOrder()", board.bestOrder(), model.bestOrder());
            } else {
                int what = number(12);
                due("count(" + what + ")", board.count(what), model.count(what));
            }
        }

        /** All that is told of the state, without a made-up choice. */
        void askAll() {
            for (int what = 0; what <= 10 && !wrong; what++) {
                due("count(" + what + ")", board.count(what), model.count(what));
            }
            for (int place : model.now.cells.keySet()) {
                for (int what = 0; what <= 6 && made < CALLS - 30; what++) {
                    due("cell(" + place + ", " + what + ")", board.cell(place, what), model.cell(place, what));
                }
            }
            for (int place = 0; place < 23 && made < CALLS; place++) {
                due("held(" + place + ")", board.held(place, place + 1), model.held(place, place + 1));
            }
        }
    }

    public static void main(String[] args) {
        int runs = args.length > 0 ? Integer.parseInt(args[0]) : 120;
        int wrong = 0;
        for (int number = 0; number < runs && wrong < 3; number++) {
            Run run = new Run(number);
            run.go();
            wrong += run.wrong ? 1 : 0;
        }
        System.out.println(Run.calls + " calls, errors by number " + Arrays.toString(Arrays.copyOf(Run.errors, 7)));
        for (int error = 1; error <= 6; error++) {
            if (Run.errors[error] == 0) {
                System.out.println("no call was due the error " + -error);
                wrong++;
            }
        }
        if (wrong != 0) {
            System.exit(1);
        }
    }
}
