/** What the terms say of bits, answers, circles and depths. */
final class LogicPart {
    private static final String LOGIC = "WHAT IT ANSWERS";
    private static final int BAD_VALUE = LookupBoard.BAD_VALUE;
    private static final int NONE = LookupBoard.NONE;

    private LogicPart() {
    }

    static void run() {
        padBits();
        tableBits();
        circles();
        behindCircles();
        depths();
        noDepths();
    }

    private static void padBits() {
        Checks.holds(LOGIC, "Bits at the pads are told as a number (0 to 255; the pad p by its bit p).");
        for (int pad = 0; pad < 8; pad++) {
            Watched x = Scenes.loaded("9=02/p" + pad);
            for (int bits = 0; bits < 256; bits++) {
                Checks.due("the pad " + pad + " of " + bits, x.answer(9, bits), bits >> pad & 1);
            }
            Checks.due("bits -1", x.answer(9, -1), BAD_VALUE);
            Checks.due("bits 256", x.answer(9, 256), BAD_VALUE);
        }
    }

    private static void tableBits() {
        Checks.holds(LOGIC, "A cell answers the bit of its table whose number is: its input 0, and twice its input 1, "
            + "and four times its input 2.");
        for (int bit = 0; bit < 8; bit++) {
            Watched x = Scenes.cells(2, 1, 9);
            x.setTable(9, 1 << bit);
            for (int input = 0; input < 3; input++) {
                x.connect(9, input, 24 + input);
            }
            for (int number = 0; number < 8; number++) {
                Checks.due("the bit " + bit + " for " + number, x.answer(9, number), number == bit ? 1 : 0);
                Checks.due("whatever other pads are", x.answer(9, number + 248), number == bit ? 1 : 0);
            }
        }
        Watched y = Scenes.loaded("9=7f/1/1/1;10=80/1/1/1;11=fe;12=01");
        Checks.due("the bit 7", y.answer(9, 0), 0);
        Checks.due("the bit 7", y.answer(10, 0), 1);
        Checks.due("the bit 0", y.answer(11, 255), 0);
        Checks.due("the bit 0", y.answer(12, 255), 1);
        // Cells answer of cells: places above and below, and one that is told by two ways.
        Watched z = Scenes.loaded("0=02/c23;23=02/c11;11=02/p5;12=06/c0/c23;13=06/c0/p5;14=06/c0/1");
        Checks.due("over three", z.answer(0, 32), 1);
        Checks.due("over three", z.answer(0, 223), 0);
        Checks.due("alike", z.answer(12, 32) + z.answer(12, 0) + z.answer(13, 32), 0);
        Checks.due("not alike", z.answer(14, 0), 1);
    }

    private static void circles() {
        Checks.holds(LOGIC, "A cell that hangs on itself by its sources, over one cell or more, and each that hangs "
            + "on such a one, answers nothing. (Whatever the tables are.)");
        for (int input = 0; input < 3; input++) {
            for (int table : new int[] {0, 255, 1}) {
                Watched x = new Watched();
                x.put(5, table);
                x.connect(5, input, 5);
                Checks.due("on itself by the input " + input, x.answer(5, 0), NONE);
                Checks.due("ones", x.ones(5), NONE);
                Checks.due("how many", x.count(5), 1);
                x.connect(5, input, 33);
                Checks.due("no longer", x.answer(5, 0), x.cell(5, 0) >> (1 << input) & 1);
                Checks.due("how many", x.count(5), 0);
            }
        }
        for (int length = 2; length <= 24; length++) {
            Watched x = Scenes.cells(4, 0);
            for (int place = 0; place < length; place++) {
                x.put(place, place % 2 == 0 ? 0 : 255);
            }
            for (int place = 1; place < length; place++) {
                x.connect(place, place % 3, place - 1);
            }
            Checks.due("open, over " + length, x.count(5), 0);
            Checks.due("open, over " + length, x.answer(length - 1, 0), (length + 1) % 2);
            Checks.dueNotBelow("to close it", x.connect(0, 2, length - 1), 1);
            Checks.due("closed, over " + length, x.count(5), length);
            Checks.due("the first one", x.answer(0, 0), NONE);
            Checks.due("the last one", x.answer(length - 1, 255), NONE);
        }
    }

    private static void behindCircles() {
        Checks.holds(LOGIC, "and each that hangs on such a one, answers nothing.");
        Watched x = Scenes.loaded("0=ff/c1;1=ff/c0;2=ff/c1;3=00/p0/p0/c2;4=ff/c5/c5/c5;5=ff/p1");
        Checks.due("behind a circle", x.answer(2, 0), NONE);
        Checks.due("behind one behind it", x.answer(3, 0), NONE);
        Checks.due("beside it", x.answer(4, 0), 1);
        Checks.due("beside it", x.answer(5, 0), 1);
        Checks.due("how many", x.count(5), 4);
        x.connect(1, 0, 4);
        Checks.due("opened", x.answer(3, 0), 0);
        Checks.due("how many", x.count(5), 0);
        // A circle's own source is no reason not to answer: what lies ahead of a circle answers.
        Watched y = Scenes.loaded("7=ff;8=00/c7/c8");
        Checks.due("ahead of a circle", y.answer(7, 0), 1);
        Checks.due("on itself", y.answer(8, 0), NONE);
    }

    private static void depths() {
        Checks.holds(LOGIC, "The depth of a cell is 1 more than the greatest depth of the cells that are sources of "
            + "its inputs (1 without such ones);");
        Watched x = Scenes.loaded("0=00;1=00/p0/1/0;2=00/c1;3=00/c1/c2/c0;4=00/c3/c3;5=00/p0/p1/c4");
        int[] depths = {1, 1, 2, 3, 4, 5};
        for (int place = 0; place < depths.length; place++) {
            Checks.due("the depth of " + place, x.cell(place, 4), depths[place]);
        }
        Checks.due("the greatest", x.count(6), 5);
        Watched up = Scenes.cells(4, 0);
        Watched down = Scenes.cells(4, 0);
        for (int place = 0; place < 24; place++) {
            up.put(place, 0);
            down.put(23 - place, 0);
            up.connect(place, place % 3, place > 0 ? place - 1 : 24);
            down.connect(23 - place, place % 3, place > 0 ? 24 - place : 24);
        }
        for (int place = 0; place < 24; place++) {
            Checks.due("upwards, the depth of " + place, up.cell(place, 4), place + 1);
            Checks.due("downwards, the depth of " + place, down.cell(place, 4), 24 - place);
        }
        Checks.due("upwards, the greatest", up.count(6), 24);
        Checks.due("downwards, the greatest", down.count(6), 24);
    }

    private static void noDepths() {
        Checks.holds(LOGIC, "none if it answers nothing.");
        Watched x = Scenes.loaded("0=ff/c1;1=ff/c0;2=ff/c1;3=00/p0/p0/c2;4=ff/c5;5=ff/p1");
        for (int place = 0; place < 4; place++) {
            Checks.due("the depth of " + place, x.cell(place, 4), NONE);
        }
        Checks.due("beside them", x.cell(4, 4), 2);
        Checks.due("the greatest", x.count(6), 2);
    }
}
