/** What the terms say of texts and plans, and the promises of load(), type() and clearText(). */
final class TextsPart {
    private static final String TEXTS = "TEXTS";
    private static final String LOAD = "Promise 9";
    private static final int CROWDED = LookupBoard.CROWDED;
    private static final int NOT_POSSIBLE = LookupBoard.NOT_POSSIBLE;
    private static final int NONE = LookupBoard.NONE;
    private static final int UNKNOWN = LookupBoard.UNKNOWN;
    private static final int FULL = LookupBoard.FULL;
    private static final String DIGITS = "0123456789";
    private static final String HEX = DIGITS + "abcdef";

    private TextsPart() {
    }

    static void run() {
        signsOfAText();
        plans();
        tables();
        sources();
        missingSources();
        numbers();
        signsThatAreAllowed();
        faults();
        faultsChangeNothing();
        boardOfTheText();
        laterOnes();
        textStays();
        laidInOrder();
        settingsStay();
        loadIsAnAct();
        loadAnswers();
        typed();
        anySign();
        cleared();
    }

    private static int fault(String text) {
        return new Watched().load(text);
    }

    private static void signsOfAText() {
        Checks.holds(TEXTS, "There is a text of at most 80 characters, empty at first.");
        Watched x = new Watched();
        Checks.due("the length at first", x.count(10), 0);
        Checks.due("load at first", x.load(), -100);
        for (int length = 1; length <= 80; length++) {
            Checks.due("type", x.type(';'), length);
        }
        Checks.due("the 81st one", x.type(';'), FULL);
        Checks.due("the length", x.count(10), 80);
        // A plan of 80 signs, the last of which counts.
        Watched y = new Watched();
        y.write("1=00;".repeat(15) + "10=0f");
        Checks.due("the length", y.count(10), 80);
        Checks.due("load of 80 signs", y.load(), 2);
        Checks.due("the last sign", y.cell(10, 0), 15);
        Watched z = new Watched();
        z.write("1=00;".repeat(15) + "2=00/");
        Checks.due("load of 80 signs that end too early", z.load(), -180);
        z.clearText();
        z.write("1=00;".repeat(15) + "2=00;");
        z.type('3');
        Checks.due("a sign that is not there", z.load(), -180);
    }

    private static void plans() {
        Checks.holds(TEXTS, "A plan is one or more cells with \";\" between two:");
        Checks.due("none", fault(""), -100);
        Checks.due("one", fault("0=00"), 1);
        Checks.due("two", fault("0=00;1=00"), 2);
        Checks.due("sixteen", fault("0=00;1=00;2=00;3=00;4=00;5=00;6=00;7=00;8=00;9=00;9=01;9=02;9=03;9=04;9=05;9=06"),
            10);
        Checks.due("one ahead", fault(";0=00"), -100);
        Checks.due("one behind", fault("0=00;"), -105);
        Checks.due("two between", fault("0=00;;1=00"), -105);
        Checks.due("none between", fault("0=001=00"), -104);
        Checks.due("another sign between", fault("0=00,1=00"), -104);
    }

    private static void tables() {
        Checks.holds(TEXTS, "a place (0 to 23), \"=\", a table (two signs from 0 to 9 and a to f, the greater one "
            + "first),");
        for (int table = 0; table < 256; table++) {
            Watched x = Scenes.loaded("6=" + HEX.charAt(table / 16) + HEX.charAt(table % 16));
            Checks.due("the table", x.cell(6, 0), table);
        }
        for (int place = 0; place < 24; place++) {
            Watched x = new Watched();
            Checks.due("load at " + place, x.load(place + "=12"), 1);
            Checks.due("the cell", x.cell(place, 0), 18);
        }
        Checks.due("24", fault("24=00"), -101);
        Checks.due("one sign", fault("1=0"), -103);
        Checks.due("three signs", fault("1=000"), -104);
        Checks.due("great letters", fault("1=0A"), -103);
    }

    private static void sources() {
        Checks.holds(TEXTS, "and then up to three sources, for the inputs 0, 1 and 2, each behind \"/\": \"c\" and a "
            + "place (0 to 23), \"p\" and a pad (0 to 7), \"0\", or \"1\";");
        for (int input = 0; input < 3; input++) {
            String ahead = "/1/1".substring(0, 2 * input);
            for (int source = 0; source < 24; source++) {
                Watched x = new Watched();
                x.load(source + "=00;9=00" + ahead + "/c" + source);
                Checks.due("the cell " + source, x.cell(9, 1 + input), source);
            }
            for (int pad = 0; pad < 8; pad++) {
                Watched x = Scenes.loaded("9=00" + ahead + "/p" + pad);
                Checks.due("the pad " + pad, x.cell(9, 1 + input), 24 + pad);
            }
            Checks.due("the constant 0", Scenes.loaded("9=00" + ahead + "/0").cell(9, 1 + input), 32);
            Checks.due("the constant 1", Scenes.loaded("9=00" + ahead + "/1").cell(9, 1 + input), 33);
        }
        Checks.due("four", fault("9=00/0/0/0/0"), -110);
        Checks.due("no cell 24", fault("9=00/c24"), -107);
        Checks.due("no pad 8", fault("9=00/p8"), -106);
        Checks.due("no constant 2", fault("9=00/2"), -105);
        Checks.due("none behind it", fault("9=00/"), -105);
        Checks.due("a cell with its own source", fault("9=00/c9/c9/c9"), 1);
    }

    private static void missingSources() {
        Checks.holds(TEXTS, "inputs without one have the constant 0.");
        String[] plans = {"9=00", "9=00/1", "9=00/1/1", "9=00/1/1/1"};
        for (int sources = 0; sources <= 3; sources++) {
            Watched x = new Watched();
            x.load("9=00/p1/c9/1");
            Checks.due("load", x.load(plans[sources]), 1);
            for (int input = 0; input < 3; input++) {
                Checks.due("input " + input + " of " + sources, x.cell(9, 1 + input), input < sources ? 33 : 32);
            }
        }
    }

    private static void numbers() {
        Checks.holds(TEXTS, "Numbers have no zero in front unless they are the single digit 0; a digit by which a "
            + "number would be greater than told is not allowed.");
        for (int number = 0; number < 100; number++) {
            boolean allowed = number < 24;
            int at = number / 10 > 0 ? 1 : 0;
            Checks.due("the place " + number, fault(number + "=00"), allowed ? 1 : -100 - at);
            int as = fault("7=00/c" + number);
            Checks.due("the cell " + number, as, number == 7 ? 1 : allowed ? NOT_POSSIBLE : -106 - at);
            boolean pad = number < 8;
            Checks.due("the pad " + number, fault("7=00/p" + number), pad ? 1 : number < 10 ? -106
                : number / 10 < 8 ? -107 : -106);
        }
        for (int digit = 0; digit < 10; digit++) {
            Checks.due("a place with a zero in front", fault("0" + digit + "=00"), -101);
            Checks.due("a cell with a zero in front", fault("0=00/c0" + digit), -107);
            Checks.due("a pad with a zero in front", fault("0=00/p0" + digit), -107);
            Checks.due("a constant with a zero in front", fault("0=00/0" + digit), -106);
            Checks.due("a constant and a digit", fault("0=00/1" + digit), -106);
            Checks.due("a place of three digits", fault("10" + digit + "=00"), -102);
            Checks.due("a cell of three digits", fault("0=00/c10" + digit), -108);
        }
    }

    /** For each beginning of a plan: all signs that may come next, and whether it may end there. */
    private static void signsThatAreAllowed() {
        Checks.holds(TEXTS, "The fault of the text is the index, from 0, of the first character that is not allowed "
            + "at its place,");
        next("", DIGITS, false);
        for (char digit : "03456789".toCharArray()) {
            next("" + digit, "=", false);
            next("1=00;" + digit, "=", false);
            next("1=00/c" + digit, "/;", true);
        }
        next("1", "=" + DIGITS, false);
        next("2", "=0123", false);
        for (String place : new String[] {"10", "19", "20", "23"}) {
            next(place, "=", false);
            next("1=00/c" + place, "/;", true);
            next("1=00/0/p0/c" + place, ";", true);
        }
        next("0=", HEX, false);
        next("23=f", HEX, false);
        next("1=00", "/;", true);
        next("1=ff", "/;", true);
        next("1=00;", DIGITS, false);
        next("1=00;1", "=" + DIGITS, false);
        next("1=00;2", "=0123", false);
        next("1=00/", "cp01", false);
        next("1=00/c", DIGITS, false);
        next("1=00/c1", DIGITS + "/;", true);
        next("1=00/c2", "0123/;", true);
        next("1=00/p", "01234567", false);
        next("1=00/p0", "/;", true);
        next("1=00/p1", "/;", true);
        next("1=00/p7", "/;", true);
        next("1=00/0", "/;", true);
        next("1=00/1", "/;", true);
        next("1=00/0/1", "/;", true);
        next("1=00/0/1/", "cp01", false);
        next("1=00/0/1/0", ";", true);
        next("1=00/0/1/1", ";", true);
        next("1=00/0/1/p7", ";", true);
        next("1=00/0/1/c1", DIGITS + ";", true);
        next("1=00/0/1/c2", "0123;", true);
        next("1=00/0/1/c", DIGITS, false);
        next("1=00/0/1/p", "01234567", false);
        next("1=00/0/1/1;", DIGITS, false);
    }

    private static void next(String start, String allowed, boolean mayEnd) {
        int length = start.length();
        int ending = fault(start);
        Checks.due("whether " + start + " may end", ending >= 0 || ending == NOT_POSSIBLE, mayEnd);
        Checks.due("the fault of " + start, mayEnd ? -100 - length : ending, -100 - length);
        for (int sign = 0; sign < 640; sign++) {
            int got = fault(start + (char) sign);
            // A sign above 255 is none of those that end like it.
            boolean fits = sign < 256 && allowed.indexOf((char) sign) >= 0;
            boolean early = got == -101 - length || got >= 0 || got == NOT_POSSIBLE;
            Checks.due("whether the sign " + sign + " may follow " + start, early, fits);
            Checks.due("the fault", fits ? -100 - length : got, -100 - length);
        }
    }

    private static void faults() {
        Checks.holds(TEXTS, "or the length of the text if it ends too early (the empty text does).");
        String plan = "23=af/c23/p7/1;0=09/0/c0/c23";
        boolean[] mayEnd = new boolean[plan.length() + 1];
        for (int end : new int[] {5, 8, 9, 12, 14, 19, 21, 24, 27, 28}) {
            mayEnd[end] = true;
        }
        for (int length = 0; length <= plan.length(); length++) {
            int got = fault(plan.substring(0, length));
            boolean noFault = got > 0 || got == NOT_POSSIBLE;
            Checks.due("no fault at the length " + length, noFault, mayEnd[length]);
            Checks.due("the fault at the length " + length, noFault ? -100 - length : got, -100 - length);
        }
        // The first of several counts, and nothing behind it.
        for (int index = 0; index < plan.length(); index++) {
            String broken = plan.substring(0, index) + '!' + plan.substring(index + 1);
            Checks.due("the fault of " + broken, fault(broken), -100 - index);
            Checks.due("the fault of two", fault(broken + "!"), -100 - index);
        }
        Checks.due("behind the plan", fault(plan + " "), -128);
    }

    private static void faultsChangeNothing() {
        Checks.holds(LOAD, "-100 minus the fault of the text if it has one (which is an error);");
        for (Scene scene : new Scene[] {Scenes.NEW, Scenes.SOME, Scenes.FULL, Scenes.CROWDED_IF_ANEW}) {
            int length = scene.made().count(10);
            scene.leaves("load()", x -> x.load(), -100 - length);
        }
        Scene late = new Scene("a plan with a late fault", x -> {
            x.load("3=07/p3;4=08/c3");
            x.clearText();
            x.write("3=01;5=02/p1/p2;3=03/c4/x");
        });
        late.leaves("load()", x -> x.load(), -124);
        Scene none = new Scene("a plan with a source that is not there", x -> {
            x.load("3=07/p3;4=08/c3");
            x.clearText();
            x.write("3=01;5=02/p1/p2;3=03/c4");
        });
        none.leaves("load()", x -> x.load(), NOT_POSSIBLE);
    }

    private static void boardOfTheText() {
        Checks.holds(LOAD, "Makes the board that of the text,", "all cells go, then those of the text come");
        Scene alone = Scenes.plan("5=3c/p0/c6/1;6=c3");
        Scene after = new Scene("a plan behind another", x -> {
            Scenes.putEverywhere(x);
            x.connect(5, 2, 7);
            x.connect(6, 0, 31);
            x.connect(23, 0, 24);
            x.load("5=3c/p0/c6/1;6=c3");
        });
        after.tellsAs(alone);
        Watched x = after.made();
        Checks.due("cells", x.count(0), 2);
        for (int place = 0; place < 24; place++) {
            int table = place == 5 ? 0x3c : place == 6 ? 0xc3 : UNKNOWN;
            Checks.due("cell(" + place + ", 0)", x.cell(place, 0), table);
        }
        Checks.due("put behind it", x.put(23, 1), 3);
        Checks.due("its inputs are new", x.cell(23, 1), 32);
    }

    private static void laterOnes() {
        Checks.holds(LOAD, "(of two at one place the later one),");
        Watched x = Scenes.loaded("5=01/p0/p1/p2;6=00;5=02/1");
        Checks.due("cells", x.count(0), 2);
        Checks.due("table", x.cell(5, 0), 2);
        Checks.due("its source", x.cell(5, 1), 33);
        Checks.due("no source", x.cell(5, 2), 32);
        Checks.due("no source", x.cell(5, 3), 32);
        Checks.due("wires", x.count(1), 0);
        Checks.due("of three", Scenes.loaded("5=01;5=02;5=03").cell(5, 0), 3);
        Checks.due("of three, apart", Scenes.loaded("5=01;0=00;5=02;1=00;5=03").cell(5, 0), 3);
        // The earlier one is not on the board, and its sources are not, either.
        Checks.due("a source of the earlier one", fault("5=01/c9;5=02"), 1);
        Checks.due("a source of the later one", fault("5=01;5=02/c9"), NOT_POSSIBLE);
    }

    private static void textStays() {
        Checks.holds(LOAD, "which stays:");
        Watched x = new Watched();
        Checks.due("load", x.load("5=01;6=02"), 2);
        Checks.due("the length", x.count(10), 9);
        x.take(6);
        Checks.due("load again", x.load(), 2);
        x.write(";7=0");
        Checks.due("written behind it", x.load(), -113);
        x.type('3');
        Checks.due("load of more", x.load(), 3);
        Checks.due("the length", x.clearText(), 14);
    }

    private static void laidInOrder() {
        Checks.holds(LOAD, "and all wires are laid in the order 0.");
        String want = "0-1";
        for (String plan : new String[] {"1=00/p0;2=00/p0", "2=00/p0;1=00/p0"}) {
            Watched x = Scenes.cells(1, 1, 23);
            x.connect(23, 0, 24);
            Checks.due("load", x.load(plan), 2);
            Checks.due("by places, the first", x.way(1, 0), want);
            Checks.due("by places, the second", x.way(2, 0), "0-6-7-1-2");
            Checks.due("no wire of what was", x.count(2), 5);
        }
        Watched far = Scenes.cells(1, 1);
        far.load("7=00/p0;3=00/p0");
        Checks.due("the first, though it is farther", far.way(3, 0), "0-1-2-3");
        Checks.due("the second, though it is nearer", far.way(7, 0), "0-6-7");
        Watched y = Scenes.cells(1, 1);
        y.load("1=00/p0/1/p0");
        Checks.due("by inputs, the first", y.way(1, 0), "0-1");
        Checks.due("by inputs, the second", y.way(1, 2), "0-6-7-1");
        Watched z = Scenes.cells(1, 1);
        z.load("7=00/0/p0/p0");
        Checks.due("by inputs, the first", z.way(7, 1), "0-1-7");
        Checks.due("by inputs, the second", z.way(7, 2), "0-6-7");
    }

    private static void settingsStay() {
        Checks.holds(LOAD, "Settings stay.");
        Watched x = Scenes.cells(4, 9, 1, 2);
        x.load("3=00/p0");
        Checks.due("the setting 0", x.count(7), 4);
        Checks.due("the setting 1", x.count(8), 9);
        Watched y = Scenes.cells(3, 0);
        y.load("7=00/p0/p0/p0");
        Checks.due("three on a segment, as they may", y.held(0, 1), 3);
        Watched z = Scenes.cells(3, 9);
        z.load("7=00/p0/p0/p0");
        Checks.due("two on a segment, as they are dear", z.held(0, 1), 2);
    }

    private static void loadIsAnAct() {
        Checks.holds(LOAD, "This is an act.");
        new Scene("a plan to load", x -> {
            x.load("7=96/p0/p1/1;16=e8/c7/c7/p7;3=0f/c3");
            x.keep();
            x.clearText();
            x.write("5=01/c6;6=02/p0");
        }).records("load()", x -> x.load(), 2);
        Scenes.plan("5=01/c6;6=02/p0").records("load() of what is there", x -> x.load(), 2);
    }

    private static void loadAnswers() {
        Checks.holds(LOAD, "Returns how many cells there are then;", "NOT_POSSIBLE if a source is a place without a cell;",
            "CROWDED if any wire finds no path.");
        Checks.due("one", fault("0=00"), 1);
        Checks.due("three", fault("0=00;1=00;2=00"), 3);
        Checks.due("two at one place", fault("0=00;1=00;0=00"), 2);
        Watched x = new Watched();
        x.put(6, 1);
        Checks.due("a source that goes", x.load("5=01/c6"), NOT_POSSIBLE);
        Checks.due("a source that comes later", x.load("5=01/c6;6=00"), 2);
        Checks.due("a source that came", x.load("6=00;5=01/c6"), 2);
        Checks.due("its own", x.load("5=01/c5"), 1);
        for (int input = 0; input < 3; input++) {
            String ahead = "/0/0".substring(0, 2 * input);
            Checks.due("no cell at the input " + input, x.load("5=01" + ahead + "/c23"), NOT_POSSIBLE);
            Checks.due("no cell at 0", x.load("5=01" + ahead + "/c0"), NOT_POSSIBLE);
        }
        for (int place = 0; place < 24; place++) {
            for (int input = 0; input < 3; input++) {
                String text = place + "=01" + "/0/0".substring(0, 2 * input) + "/c" + (place + 1) % 24;
                Checks.due("load of " + text, fault(text), NOT_POSSIBLE);
            }
        }
        // A corner has room for two wires of another place at one a segment, and for three at two.
        Scene crowded = new Scene("a plan that is crowded", y -> {
            y.set(0, 1);
            y.load("7=01;8=02/c7");
            y.clearText();
            y.write("0=00/p1/p2/p3");
        });
        crowded.leaves("load()", y -> y.load(), CROWDED);
        Checks.due("with room", fault("0=00/p1/p2/p3"), 1);
        Watched z = Scenes.cells(1, 1);
        Checks.due("with just as much room", z.load("0=00/p1/p2/0"), 1);
        Checks.due("a fault ahead of no cell", z.load("0=00/p1/p2/p3;5=01/c6;"), -122);
        Checks.due("no cell ahead of crowded", z.load("0=00/p1/p2/p3;5=01/c6"), NOT_POSSIBLE);
        Checks.due("crowded", z.load("0=00/p1/p2/p3;5=01/c5"), CROWDED);
    }

    private static void typed() {
        Checks.holds("Promise 10", "Types a character behind the text.",
            "Returns the length of the text then; FULL if it has 80 characters.");
        Watched x = new Watched();
        Checks.due("the first", x.type('4'), 1);
        Checks.due("the second", x.type('='), 2);
        x.write("0f");
        Checks.due("as they were typed", x.load(), 1);
        Checks.due("the table", x.cell(4, 0), 15);
        for (int length = 5; length <= 80; length++) {
            Checks.due("type", x.type('/'), length);
        }
        Checks.due("full", x.type('/'), FULL);
        Checks.due("still full", x.type('1'), FULL);
        Checks.due("the length", x.count(10), 80);
        Scenes.FULL.leaves("type('1')", y -> y.type('1'), FULL);
        Scenes.FULL.leaves("type((char) 0)", y -> y.type((char) 0), FULL);
        new Scene("one sign less than full", y -> y.write("1=00;".repeat(15) + "12=0"))
            .leavesState("type('1')", y -> y.type('1'), 80);
        Scenes.SOME.leavesState("type('1')", y -> y.type('1'), 4);
        Scenes.NEW.leavesState("type('1')", y -> y.type('1'), 1);
    }

    private static void anySign() {
        Checks.holds("Promise 10", "- `character`: any character");
        Watched x = new Watched();
        for (int sign = 0; sign <= 0xffff; sign++) {
            if (sign % 80 == 0) {
                x = new Watched();
            }
            Checks.due("type((char) " + sign + ")", x.type((char) sign), sign % 80 + 1);
        }
    }

    private static void cleared() {
        Checks.holds("Promise 11", "Empties the text.", "Returns the length that it had.");
        Watched x = new Watched();
        Checks.due("the empty one", x.clearText(), 0);
        x.type('5');
        Checks.due("one sign", x.clearText(), 1);
        Checks.due("now", x.clearText(), 0);
        Checks.due("the length", x.count(10), 0);
        Checks.due("load", x.load(), -100);
        x.write("=00");
        Checks.due("nothing of the old one", x.load(), -100);
        x.clearText();
        x.write(";".repeat(79));
        Checks.due("79 signs", x.clearText(), 79);
        x.write(";".repeat(81));
        Checks.due("80 signs", x.clearText(), 80);
        Checks.due("from the start again", x.type('5'), 1);
        Scenes.NEW.leaves("clearText()", y -> y.clearText(), 0);
        Scenes.SOME.leavesState("clearText()", y -> y.clearText(), 3);
        Scenes.FULL.leavesState("clearText()", y -> y.clearText(), 80);
    }
}
