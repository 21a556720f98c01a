// One part for each promise of the document: ordinary calls, named edges, and wrong arguments.
public final class PromiseTests {
    private static final int UNKNOWN = LookupBoard.UNKNOWN;
    private static final int BAD_VALUE = LookupBoard.BAD_VALUE;
    private static final int CROWDED = LookupBoard.CROWDED;
    private static final int NOT_POSSIBLE = LookupBoard.NOT_POSSIBLE;
    private static final int NONE = LookupBoard.NONE;
    private static final int FULL = LookupBoard.FULL;
    private static final int LEAST = Integer.MIN_VALUE;
    private static final int MOST = Integer.MAX_VALUE;

    private static int wrong = 0;

    private static void due(String call, int got, int want) {
        if (got != want) {
            wrong++;
            System.out.println(call + " answered " + got + ", due is " + want);
        }
    }

    private static void type(LookupBoard x, String text) {
        for (char sign : text.toCharArray()) {
            x.type(sign);
        }
    }

    private static int load(LookupBoard x, String text) {
        x.clearText();
        type(x, text);
        return x.load();
    }

    private static LookupBoard loaded(String text) {
        LookupBoard x = new LookupBoard();
        int answer = load(x, text);
        if (answer < 1) {
            due("load of " + text, answer, 1);
        }
        return x;
    }

    /** The junctions of a wire's path, with "-" behind each. */
    private static String way(LookupBoard x, int place, int input) {
        StringBuilder way = new StringBuilder();
        for (int step = 0; x.path(place, input, step) >= 0 && step < 30; step++) {
            way.append(x.path(place, input, step)).append('-');
        }
        return way.toString();
    }

    private static void dueWay(LookupBoard x, int place, int input, String want) {
        String got = way(x, place, input);
        if (!got.equals(want)) {
            wrong++;
            System.out.println("the way to " + place + "/" + input + " is " + got + ", due is " + want);
        }
    }

    private static void newObject() {
        LookupBoard x = new LookupBoard();
        for (int place = 0; place < 24; place++) {
            due("1 cell", x.cell(place, 0), UNKNOWN);
        }
        int[] counts = {0, 0, 0, 0, 0, 0, 0, 2, 1, 0, 0};
        for (int what = 0; what < counts.length; what++) {
            due("1 count(" + what + ")", x.count(what), counts[what]);
        }
        due("1 undo", x.undo(), NONE);
        due("1 restore", x.restore(), NONE);
        due("1 load", x.load(), -100);
        due("1 held", x.held(0, 1), 0);
        LookupBoard other = new LookupBoard();
        other.put(3, 3);
        due("1 apart", x.count(0), 0);
    }

    private static void put() {
        LookupBoard x = new LookupBoard();
        due("2 first", x.put(0, 0), 1);
        due("2 last", x.put(23, 255), 2);
        due("2 table", x.cell(23, 0), 255);
        for (int input = 0; input < 3; input++) {
            due("2 source", x.cell(23, 1 + input), 32);
        }
        due("2 low place", x.put(-1, 0), UNKNOWN);
        due("2 high place", x.put(24, 256), UNKNOWN);
        due("2 least place", x.put(LEAST, 0), UNKNOWN);
        due("2 most place", x.put(MOST, 0), UNKNOWN);
        due("2 low table", x.put(1, -1), BAD_VALUE);
        due("2 high table", x.put(0, 256), BAD_VALUE);
        due("2 not empty", x.put(0, 5), NOT_POSSIBLE);
        due("2 same again", x.put(0, 0), NOT_POSSIBLE);
        due("2 table kept", x.cell(0, 0), 0);
        due("2 acts", x.count(9), 2);
    }

    private static void take() {
        LookupBoard x = loaded("8=96/p0/c8;9=01/c8/p7");
        due("3 used", x.take(8), NOT_POSSIBLE);
        due("3 unused", x.take(9), 1);
        due("3 wires gone", x.held(8, 9), 0);
        due("3 own source only", x.take(8), 0);
        due("3 no wires", x.count(2), 0);
        due("3 empty", x.take(8), UNKNOWN);
        due("3 low", x.take(-1), UNKNOWN);
        due("3 high", x.take(24), UNKNOWN);
        due("3 acts", x.count(9), 3);
        due("3 put again", x.put(8, 7), 1);
        due("3 inputs as new", x.cell(8, 1), 32);
        LookupBoard y = loaded("8=96/p0;9=01/p7");
        due("3 beside another", y.take(8), 1);
        due("3 the other's wire stays", y.cell(9, 6), 4);
        due("3 no path", x.path(8, 0, 0), NONE);
    }

    private static void setTable() {
        LookupBoard x = new LookupBoard();
        x.put(5, 17);
        due("4 previous", x.setTable(5, 18), 17);
        due("4 now", x.cell(5, 0), 18);
        due("4 so already", x.setTable(5, 18), NONE);
        due("4 low", x.setTable(5, -1), BAD_VALUE);
        due("4 high", x.setTable(5, 256), BAD_VALUE);
        due("4 empty", x.setTable(6, 300), UNKNOWN);
        due("4 no place", x.setTable(24, 0), UNKNOWN);
        due("4 least", x.setTable(LEAST, 0), UNKNOWN);
        due("4 acts", x.count(9), 2);
        due("4 edge", x.setTable(5, 0), 18);
        due("4 edge", x.setTable(5, 255), 0);
    }

    private static void connect() {
        LookupBoard x = new LookupBoard();
        x.put(0, 1);
        x.put(7, 1);
        due("5 way", x.connect(7, 0, 0), 2);
        dueWay(x, 7, 0, "0-1-7-");
        due("5 crowded way costs", x.connect(7, 1, 0), 2);
        dueWay(x, 7, 1, "0-6-7-");
        due("5 lower number", x.connect(7, 2, 0), 2);
        dueWay(x, 7, 2, "0-1-7-");
        due("5 so already", x.connect(7, 2, 0), NONE);
        due("5 constant", x.connect(7, 1, 33), 0);
        due("5 wire gone", x.held(0, 6), 0);
        due("5 own", x.connect(7, 1, 7), 0);
        dueWay(x, 7, 1, "7-");
        due("5 pad 0 at its own junction", x.connect(0, 0, 24), 0);
        due("5 pad 7", x.connect(0, 0, 31), 8);
        due("5 pad 4, past the full segment", x.connect(0, 0, 28), 7);
        due("5 place", x.connect(24, 0, 32), UNKNOWN);
        due("5 empty place", x.connect(1, 0, 32), UNKNOWN);
        due("5 input low", x.connect(0, -1, 32), UNKNOWN);
        due("5 input high", x.connect(0, 3, 32), UNKNOWN);
        due("5 source low", x.connect(0, 0, -1), UNKNOWN);
        due("5 source high", x.connect(0, 0, 34), UNKNOWN);
        due("5 source empty", x.connect(0, 0, 5), UNKNOWN);
        due("5 extremes", x.connect(LEAST, MOST, LEAST), UNKNOWN);
        crowdedConnect();
        ownWireIsFree();
    }

    private static void crowdedConnect() {
        LookupBoard x = new LookupBoard();
        x.set(0, 1);
        x.put(0, 1);
        x.put(1, 1);
        x.put(2, 1);
        due("5 one", x.connect(0, 0, 1), 1);
        due("5 two", x.connect(0, 1, 2), 4);
        dueWay(x, 0, 1, "2-1-7-6-0-");
        int states = x.count(9);
        due("5 crowded", x.connect(0, 2, 31), CROWDED);
        due("5 source stays", x.cell(0, 3), 32);
        due("5 no act", x.count(9), states);
        due("5 crowded, changed", x.connect(2, 0, 0), CROWDED);
        due("5 instead of its own", x.connect(0, 1, 31), 8);
        due("5 crowded again", x.connect(1, 0, 0), CROWDED);
        due("5 old stays", x.cell(1, 1), 32);
    }

    private static void ownWireIsFree() {
        LookupBoard x = new LookupBoard();
        x.set(0, 1);
        x.put(0, 1);
        x.put(6, 1);
        due("5 straight", x.connect(0, 0, 6), 1);
        due("5 its own place is free", x.connect(0, 0, 25), 1);
        dueWay(x, 0, 0, "6-0-");
        due("5 round", x.connect(0, 1, 6), 3);
        dueWay(x, 0, 1, "6-7-1-0-");
        due("5 shorter", x.connect(0, 0, 24), 0);
        dueWay(x, 0, 1, "6-7-1-0-");
        due("5 others stay", x.cell(0, 6), 3);
    }

    private static void swap() {
        LookupBoard x = loaded("7=96/c8/c7/p0;8=0f/c7/c8/1");
        due("6 total", x.swap(7, 8), 5);
        due("6 table", x.cell(7, 0), 0x0f);
        due("6 other table", x.cell(8, 0), 0x96);
        due("6 sources", x.cell(8, 1), 7);
        due("6 own source", x.cell(8, 2), 8);
        due("6 pad", x.cell(8, 3), 24);
        due("6 sources", x.cell(7, 1), 8);
        due("6 own source", x.cell(7, 2), 7);
        due("6 constant", x.cell(7, 3), 33);
        due("6 with an empty one", x.swap(0, 7), 9);
        due("6 gone", x.cell(7, 0), UNKNOWN);
        due("6 there", x.cell(0, 2), 0);
        due("6 source goes along", x.cell(8, 1), 0);
        due("6 acts", x.count(9), 3);
        due("6 same", x.swap(8, 8), NONE);
        due("6 same, empty", x.swap(9, 9), NONE);
        due("6 both empty", x.swap(9, 10), NONE);
        due("6 low", x.swap(-1, 8), UNKNOWN);
        due("6 high", x.swap(8, 24), UNKNOWN);
        due("6 same, none", x.swap(24, 24), UNKNOWN);
        due("6 acts", x.count(9), 3);
        LookupBoard y = loaded("3=11");
        due("6 without wires", y.swap(3, 4), 0);
        due("6 without wires, there", y.cell(4, 0), 0x11);
        crowdedSwap();
        swapLaysAnew();
    }

    private static void crowdedSwap() {
        LookupBoard y = new LookupBoard();
        y.set(0, 1);
        load(y, "7=00/p2/p3/p6");
        due("6 in the corner", y.swap(7, 0), CROWDED);
        due("6 stays", y.cell(7, 1), 26);
        due("6 no act", y.count(9), 2);
        LookupBoard z = crowdedIfAnew();
        due("6 crowded elsewhere", z.swap(20, 7), CROWDED);
        // Nothing changes places here, so nothing is laid that could be crowded.
        due("6 same", z.swap(7, 7), NONE);
        due("6 both empty", z.swap(20, 21), NONE);
    }

    private static void swapLaysAnew() {
        LookupBoard x = new LookupBoard();
        x.put(7, 0);
        x.put(12, 0);
        x.connect(7, 1, 24);
        dueWay(x, 7, 1, "0-1-7-");
        x.connect(7, 0, 24);
        dueWay(x, 7, 0, "0-6-7-");
        due("6 total", x.swap(12, 22), 4);
        dueWay(x, 7, 0, "0-1-7-");
        dueWay(x, 7, 1, "0-6-7-");
    }

    private static void layAnew() {
        LookupBoard x = new LookupBoard();
        due("7 none", x.layAnew(0), 0);
        due("7 act", x.count(9), 1);
        due("7 low", x.layAnew(-1), BAD_VALUE);
        due("7 high", x.layAnew(3), BAD_VALUE);
        due("7 extremes", x.layAnew(LEAST) + x.layAnew(MOST), 2 * BAD_VALUE);
        // Two wires of a cell want the way over 1; the one that is laid first gets it.
        x = new LookupBoard();
        x.put(7, 0);
        x.put(2, 0);
        x.connect(7, 0, 24);
        x.connect(7, 1, 24);
        x.connect(2, 0, 24);
        due("7 by places", x.layAnew(0), 6);
        dueWay(x, 2, 0, "0-1-2-");
        dueWay(x, 7, 0, "0-6-7-");
        dueWay(x, 7, 1, "0-1-7-");
        LookupBoard y = loaded("23=00/p0;18=00/p4");
        for (int order = 0; order < 3; order++) {
            due("7 from corner to corner", y.layAnew(order), 16);
        }
        orders();
        crowdedOrders();
    }

    private static void orders() {
        // The cell 1 is near the pad 0 and the cell 8 is far; both go over the segment 0-1.
        LookupBoard x = new LookupBoard();
        x.set(1, 9);
        load(x, "1=00/p0;8=00/p0/0/p0");
        due("7 by places", x.layAnew(0), 7);
        dueWay(x, 1, 0, "0-1-");
        dueWay(x, 8, 0, "0-6-7-8-");
        dueWay(x, 8, 2, "0-1-2-8-");
        due("7 farthest first", x.layAnew(1), 7);
        dueWay(x, 8, 0, "0-1-2-8-");
        dueWay(x, 8, 2, "0-6-7-8-");
        dueWay(x, 1, 0, "0-1-");
        due("7 nearest first", x.layAnew(2), 7);
        dueWay(x, 1, 0, "0-1-");
        dueWay(x, 8, 0, "0-6-7-8-");
        dueWay(x, 8, 2, "0-1-2-8-");
    }

    private static void crowdedOrders() {
        LookupBoard x = crowdedIfAnew();
        int states = x.count(9);
        for (int order = 0; order < 3; order++) {
            due("7 crowded", x.layAnew(order), CROWDED);
        }
        due("7 crowded, no act", x.count(9), states);
        due("7 segments stay", x.count(2), 6);
        dueWay(x, 7, 0, "0-1-7-");
        dueWay(x, 6, 0, "1-2-8-7-6-");
        due("20 crowded", x.ifSwap(7, 20), CROWDED);
        due("22 all are crowded", x.bestOrder(), NONE);
    }

    /** A board whose wires are laid, but would take the way of each other if laid anew. */
    private static LookupBoard crowdedIfAnew() {
        LookupBoard x = new LookupBoard();
        x.set(0, 1);
        x.put(1, 0);
        x.put(6, 0);
        x.put(7, 0);
        x.connect(7, 0, 24);
        x.connect(6, 0, 1);
        return x;
    }

    private static void set() {
        LookupBoard x = new LookupBoard();
        due("8 wires", x.set(0, 4), 2);
        due("8 now", x.count(7), 4);
        due("8 cost", x.set(1, 0), 1);
        due("8 now", x.count(8), 0);
        due("8 so already", x.set(0, 4), NONE);
        due("8 so already", x.set(1, 0), NONE);
        due("8 low", x.set(0, 0), BAD_VALUE);
        due("8 high", x.set(0, 5), BAD_VALUE);
        due("8 low cost", x.set(1, -1), BAD_VALUE);
        due("8 high cost", x.set(1, 10), BAD_VALUE);
        due("8 which", x.set(2, 100), UNKNOWN);
        due("8 which", x.set(-1, 1), UNKNOWN);
        due("8 acts", x.count(9), 2);
        // Wires cost nothing more: all take the lowest way, which holds three then.
        x.put(7, 0);
        for (int input = 0; input < 3; input++) {
            x.connect(7, input, 24);
            dueWay(x, 7, input, "0-1-7-");
        }
        due("8 holds more", x.set(0, 2), NOT_POSSIBLE);
        due("8 out of range first", x.set(0, 0), BAD_VALUE);
        due("8 holds as many", x.set(0, 3), 4);
        due("8 full ones", x.count(3), 2);
        due("8 high edge", x.set(1, 9), 0);
        dueWay(x, 7, 2, "0-1-7-");
        due("8 undone", x.undo(), 3);
        due("8 cost is back", x.count(8), 0);
    }

    private static void loadPlans() {
        LookupBoard x = new LookupBoard();
        x.put(3, 3);
        x.set(1, 5);
        due("9 cells", load(x, "0=1a;23=ff/c0/p7/1"), 2);
        due("9 old ones gone", x.cell(3, 0), UNKNOWN);
        due("9 table", x.cell(0, 0), 0x1a);
        due("9 source", x.cell(23, 1), 0);
        due("9 pad", x.cell(23, 2), 31);
        due("9 constant", x.cell(23, 3), 33);
        due("9 settings stay", x.count(8), 5);
        due("9 text stays", x.count(10), 18);
        due("9 act", x.count(9), 3);
        due("9 undo", x.undo(), 2);
        due("9 back", x.cell(3, 0), 3);
        due("9 later one", load(x, "5=01/p0/p1;6=00;5=02/1"), 2);
        due("9 table", x.cell(5, 0), 2);
        due("9 source", x.cell(5, 1), 33);
        due("9 no source", x.cell(5, 2), 32);
        due("9 wires of the earlier", x.count(1), 0);
        due("9 source of the earlier", load(x, "5=01/c9;5=02"), 1);
        due("9 later cell as source", load(x, "5=01/c6;6=02"), 2);
        due("9 own", load(x, "5=01/c5"), 1);
        due("9 no cell", load(x, "5=01/c6"), NOT_POSSIBLE);
        due("9 stays", x.cell(5, 1), 5);
        x.set(0, 1);
        due("9 crowded", load(x, "0=00/p1/p2/p3"), CROWDED);
        due("9 fault first", load(x, "0=00/p1/p2/p3;5=01/c6;"), -122);
        due("9 no cell first", load(x, "0=00/p1/p2/p3;5=01/c6"), NOT_POSSIBLE);
        faults();
    }

    private static void faults() {
        String[] texts = {"", "=", "x", "2", "24", "00", "0", "1=", "19=0", "20=0g", "1=A0", "1=00,", "1=00 ",
            "1=00;", "1=00/", "1=00/2", "1=00/c", "1=00/cc", "1=00/c24", "1=00/c30", "1=00/c00", "1=00/p8",
            "1=00/p10", "1=00/p", "1=00/00", "1=00/10", "1=00/0/0/0/", "1=00/0/0/0/0", "1=00/0;;", "1=000",
            "9=00;30=00", "1=00/-", "-1=00", "1=0", "1 =00", "23=00;1", "1=00/c1x"};
        int[] faults = {0, 0, 0, 1, 1, 1, 1, 2, 4, 4, 2, 4, 4, 5, 5, 5, 6, 6, 7, 7, 7, 6, 7, 6, 6, 6, 10, 10, 7, 4,
            6, 5, 0, 3, 1, 7, 7};
        LookupBoard x = new LookupBoard();
        for (int index = 0; index < texts.length; index++) {
            due("9 load of " + texts[index], load(x, texts[index]), -100 - faults[index]);
        }
        due("9 no act", x.count(9), 0);
        x = new LookupBoard();
        x.type('1');
        x.type((char) ('=' + 256));
        due("9 a sign that only ends like =", x.load(), -101);
        x = new LookupBoard();
        type(x, "10=00/p0/p1/p2;11=00/p0/p1/p2;12=00/p0/p1/p2;13=00/p0/p1/p2;14=00/p0/p1/p2;5=00/");
        due("9 as long as can be", x.count(10), 80);
        due("9 too early", x.load(), -180);
    }

    private static void typeSigns() {
        LookupBoard x = new LookupBoard();
        for (int length = 1; length <= 80; length++) {
            due("10 length", x.type(length == 1 ? (char) 65535 : (char) 0), length);
        }
        due("10 full", x.type('a'), FULL);
        due("10 length", x.count(10), 80);
        due("10 no act", x.count(9), 0);
        x.clearText();
        due("10 from the start", x.type('1'), 1);
        due("10 behind", x.type('='), 2);
    }

    private static void clearText() {
        LookupBoard x = new LookupBoard();
        due("11 empty", x.clearText(), 0);
        type(x, "1=00");
        due("11 length", x.clearText(), 4);
        due("11 emptied", x.count(10), 0);
        due("11 load", x.load(), -100);
        due("11 no act", x.count(9), 0);
    }

    private static void undo() {
        LookupBoard x = new LookupBoard();
        due("12 empty", x.undo(), NONE);
        for (int place = 0; place < 6; place++) {
            x.put(place, place);
        }
        due("12 at most four", x.count(9), 4);
        x.type('7');
        for (int left = 3; left >= 0; left--) {
            due("12 left", x.undo(), left);
            due("12 cells", x.count(0), left + 2);
        }
        due("12 none", x.undo(), NONE);
        due("12 cells", x.count(0), 2);
        due("12 the text stays", x.count(10), 1);
        wiresComeBack();
    }

    private static void wiresComeBack() {
        LookupBoard x = new LookupBoard();
        x.put(7, 0);
        x.connect(7, 1, 24);
        x.connect(7, 0, 24);
        x.layAnew(0);
        dueWay(x, 7, 0, "0-1-7-");
        x.undo();
        dueWay(x, 7, 0, "0-6-7-");
        due("12 held", x.held(6, 0), 1);
        x.undo();
        due("12 source", x.cell(7, 1), 32);
        due("12 held", x.held(6, 0), 0);
    }

    private static void keep() {
        LookupBoard x = new LookupBoard();
        due("13 empty board", x.keep(), 0);
        x.put(1, 1);
        due("13 cells", x.keep(), 1);
        due("13 no act", x.count(9), 1);
        x.setTable(1, 2);
        due("13 the latest", x.restore(), 1);
        due("13 table", x.cell(1, 0), 1);
        due("13 not undone", x.undo(), 2);
        x.undo();
        x.undo();
        due("13 still there", x.restore(), 1);
    }

    private static void restore() {
        LookupBoard x = new LookupBoard();
        due("14 none", x.restore(), NONE);
        due("14 no act", x.count(9), 0);
        x.put(7, 1);
        x.connect(7, 0, 31);
        x.set(1, 3);
        x.keep();
        x.take(7);
        x.set(1, 4);
        due("14 cells", x.restore(), 1);
        due("14 wire", x.held(10, 11), 1);
        due("14 length", x.cell(7, 6), 6);
        due("14 setting", x.count(8), 3);
        due("14 stays", x.restore(), 1);
        due("14 acts", x.count(9), 4);
        due("14 undo", x.undo(), 3);
        due("14 undo", x.undo(), 2);
        due("14 ahead of it", x.count(0), 0);
    }

    private static void cell() {
        LookupBoard x = loaded("6=8d/p1/c7/0;7=01/c6;9=02/p0/1/1;10=03/c9/c9/p7");
        due("15 table", x.cell(6, 0), 0x8d);
        due("15 pad", x.cell(6, 1), 25);
        due("15 cell", x.cell(6, 2), 7);
        due("15 constant", x.cell(6, 3), 32);
        due("15 one", x.cell(9, 2), 33);
        due("15 no depth", x.cell(6, 4), NONE);
        due("15 no depth", x.cell(7, 4), NONE);
        due("15 depth", x.cell(9, 4), 1);
        due("15 depth", x.cell(10, 4), 2);
        due("15 used twice", x.cell(9, 5), 2);
        due("15 not used", x.cell(10, 5), 0);
        due("15 segments", x.cell(9, 6), 4);
        due("15 segments", x.cell(10, 6), 5);
        due("15 segments", x.cell(6, 6), 1);
        due("15 low", x.cell(6, -1), BAD_VALUE);
        due("15 high", x.cell(6, 7), BAD_VALUE);
        due("15 extremes", x.cell(6, LEAST) + x.cell(6, MOST), 2 * BAD_VALUE);
        due("15 empty", x.cell(8, 9), UNKNOWN);
        due("15 no place", x.cell(24, 0) + x.cell(-1, 0) + x.cell(LEAST, 0), 3 * UNKNOWN);
        due("15 own use", loaded("3=00/c3/c3").cell(3, 5), 2);
        due("15 tables do not matter", loaded("3=00/c3").cell(3, 4), NONE);
    }

    private static void path() {
        LookupBoard x = loaded("8=00/p0/c8/1");
        dueWay(x, 8, 0, "0-1-2-8-");
        due("16 behind", x.path(8, 0, 4), NONE);
        due("16 far behind", x.path(8, 0, MOST), NONE);
        due("16 no segments", x.path(8, 1, 0), 8);
        due("16 no segments", x.path(8, 1, 1), NONE);
        due("16 no wire", x.path(8, 2, 0), NONE);
        due("16 negative", x.path(8, 0, -1), BAD_VALUE);
        due("16 negative", x.path(8, 2, LEAST), BAD_VALUE);
        due("16 input", x.path(8, 3, -1), UNKNOWN);
        due("16 input", x.path(8, -1, 0), UNKNOWN);
        due("16 empty", x.path(9, 0, 0), UNKNOWN);
        due("16 place", x.path(24, 0, 0) + x.path(-1, 0, 0), 2 * UNKNOWN);
        due("16 extremes", x.path(MOST, MOST, LEAST), UNKNOWN);
    }

    private static void held() {
        LookupBoard x = loaded("8=00/p0/p0");
        due("17 a row", x.held(0, 1), 1);
        due("17 other way round", x.held(1, 0), 1);
        due("17 a column", x.held(6, 0), 1);
        due("17 none there", x.held(23, 17), 0);
        due("17 itself", x.held(3, 3), UNKNOWN);
        due("17 two away", x.held(3, 5), UNKNOWN);
        due("17 next row", x.held(5, 6) + x.held(6, 5) + x.held(12, 11), 3 * UNKNOWN);
        due("17 askew", x.held(0, 7), UNKNOWN);
        due("17 outside", x.held(-1, 0) + x.held(0, -1) + x.held(23, 24) + x.held(18, 24), 4 * UNKNOWN);
        due("17 extremes", x.held(MOST, LEAST) + x.held(LEAST, LEAST), 2 * UNKNOWN);
        int sides = 0;
        for (int one = 0; one < 24; one++) {
            for (int other = 0; other < 24; other++) {
                sides += x.held(one, other) >= 0 ? 1 : 0;
            }
        }
        due("17 segments", sides, 2 * 38);
    }

    private static void answer() {
        LookupBoard x = loaded("6=e8/p0/p3/p7;7=96/c6/1/p1;8=01/c9;9=02/c8;10=ff/c9;11=ff/c11;12=80/1/1/1");
        int[] bits = {0, 1, 8, 9, 128, 129, 136, 137, 255};
        int[] majority = {0, 0, 0, 1, 0, 1, 1, 1, 1};
        for (int index = 0; index < bits.length; index++) {
            due("18 majority", x.answer(6, bits[index]), majority[index]);
            due("18 not alike", x.answer(7, bits[index]), majority[index] ^ 1 ^ bits[index] >> 1 & 1);
        }
        due("18 circle", x.answer(8, 0) + x.answer(9, 0), 2 * NONE);
        due("18 behind a circle", x.answer(10, 0), NONE);
        due("18 on itself", x.answer(11, 0), NONE);
        due("18 constants", x.answer(12, 0), 1);
        due("18 low", x.answer(6, -1), BAD_VALUE);
        due("18 high", x.answer(6, 256), BAD_VALUE);
        due("18 a value ahead of NONE", x.answer(11, 256), BAD_VALUE);
        due("18 empty", x.answer(0, -1), UNKNOWN);
        due("18 place", x.answer(-1, 0) + x.answer(24, 0), 2 * UNKNOWN);
        LookupBoard y = loaded("0=b2/p0/p1/p2");
        for (int number = 0; number < 8; number++) {
            due("18 bit " + number, y.answer(0, number), 0xb2 >> number & 1);
        }
    }

    private static void ones() {
        LookupBoard x = loaded("6=e8/p0/p3/p7;7=80/p0/p1/p2;8=00;9=ff;10=02/p6;11=ff/c11;12=ff/c11;13=8b/c7/c6");
        due("19 half", x.ones(6), 128);
        due("19 an eighth", x.ones(7), 32);
        due("19 never", x.ones(8), 0);
        due("19 always", x.ones(9), 256);
        due("19 one pad", x.ones(10), 128);
        due("19 on itself", x.ones(11), NONE);
        due("19 behind one", x.ones(12), NONE);
        int ones = 0;
        for (int bits = 0; bits < 256; bits++) {
            ones += x.answer(13, bits);
        }
        due("19 as told", x.ones(13), ones);
        due("19 empty", x.ones(0), UNKNOWN);
        due("19 place", x.ones(-1) + x.ones(24), 2 * UNKNOWN);
    }

    private static void ifSwap() {
        LookupBoard x = loaded("7=96/c8/c7/p0;8=0f/c7/c8/1");
        int states = x.count(9);
        due("20 as swap", x.ifSwap(7, 8), 5);
        due("20 no change", x.cell(7, 0), 0x96);
        due("20 no act", x.count(9), states);
        due("20 with an empty one", x.ifSwap(23, 7), 18);
        due("20 same", x.ifSwap(7, 7), NONE);
        due("20 both empty", x.ifSwap(0, 1), NONE);
        due("20 unknown", x.ifSwap(24, 24) + x.ifSwap(-1, 7) + x.ifSwap(7, LEAST), 3 * UNKNOWN);
        due("20 alike", loaded("3=11;4=11").ifSwap(3, 4), 0);
    }

    private static void bestSwap() {
        LookupBoard x = loaded("23=00/p0/p1/p0");
        due("21 where its pads are", x.bestSwap(23), 0);
        due("21 no act", x.count(9), 1);
        due("21 no change", x.cell(23, 1), 24);
        x.swap(23, 0);
        due("21 none is better", x.bestSwap(0), NONE);
        due("21 lowest", loaded("9=00/p0/p1").bestSwap(9), 0);
        due("21 between", loaded("9=00/p1/p2").bestSwap(9), 6);
        due("21 no wires", loaded("9=00").bestSwap(9), NONE);
        due("21 with a cell", loaded("0=00;5=00/p0").bestSwap(5), 0);
        due("21 by its followers", loaded("0=00/c9;9=01").bestSwap(9), 1);
        due("21 empty", x.bestSwap(9), UNKNOWN);
        due("21 place", x.bestSwap(-1) + x.bestSwap(24), 2 * UNKNOWN);
    }

    private static void bestOrder() {
        due("22 no wires", new LookupBoard().bestOrder(), 0);
        LookupBoard x = loaded("9=00/p0/p1");
        due("22 lowest", x.bestOrder(), 0);
        due("22 no act", x.count(9), 1);
        int[] found = new int[4];
        long state = 7;
        for (int attempt = 0; attempt < 4000; attempt++) {
            LookupBoard y = new LookupBoard();
            y.set(0, 1);
            int[] places = {0, 1, 7, 6};
            for (int place : places) {
                y.put(place, 0);
            }
            for (int call = 0; call < 8; call++) {
                state = state * 6364136223846793005L + 1442695040888963407L;
                int bits = (int) (state >>> 33);
                y.connect(places[bits & 3], (bits >> 2) % 3, 24 + (bits >> 9) % 8);
            }
            int best = y.bestOrder();
            due("22 as layAnew", best, bestByLaying(y));
            found[best < 0 ? 3 : best]++;
        }
        for (int index = 0; index < found.length; index++) {
            due("22 each answer comes, " + index, found[index] > 0 ? 1 : 0, 1);
        }
    }

    private static int bestByLaying(LookupBoard y) {
        int best = NONE;
        int fewest = MOST;
        for (int order = 0; order < 3; order++) {
            int segments = y.layAnew(order);
            if (segments >= 0) {
                y.undo();
            }
            if (segments >= 0 && segments < fewest) {
                fewest = segments;
                best = order;
            }
        }
        return best;
    }

    private static void count() {
        LookupBoard x = loaded("6=e8/p0/p0/p0;7=80/c6/c7/1;8=00/c7;9=ff/c6;10=ff");
        int[] counts = {5, 7, 12, 2, 2, 2, 2, 2, 1, 1, 48};
        for (int what = 0; what < counts.length; what++) {
            due("23 count(" + what + ")", x.count(what), counts[what]);
        }
        x.set(0, 3);
        due("23 full ones", x.count(3), 0);
        due("23 setting", x.count(7), 3);
        due("23 low", x.count(-1), BAD_VALUE);
        due("23 high", x.count(11), BAD_VALUE);
        due("23 extremes", x.count(LEAST) + x.count(MOST), 2 * BAD_VALUE);
        due("23 all on circles", loaded("3=00/c3").count(6), 0);
    }

    public static void main(String[] args) {
        newObject();
        put();
        take();
        setTable();
        connect();
        swap();
        layAnew();
        set();
        loadPlans();
        typeSigns();
        clearText();
        undo();
        keep();
        restore();
        cell();
        path();
        held();
        answer();
        ones();
        ifSwap();
        bestSwap();
        bestOrder();
        count();
        System.out.println(wrong == 0 ? "all answers are as due" : wrong + " answers are not as due");
        if (wrong != 0) {
            System.exit(1);
        }
    }
}
