/** The sentences of the terms' part 1 with a limit or what is rounded down, on its edges; promises 1 to 3, 17, 22. */
final class CellsEdgesTest {
    public static void main(String[] args) {
        eastAndSouth();
        atFirst();
        rooms();
        fluids();
        pressure();
        faultsAreKeptApart();
        nothingGoesThroughAFault();
        movesAreRoundedDown();
        gasGoesTwice();
        allByWhatThereWas();
        nothingIfAllIsZero();
        meanIsNotRounded();
        Expect.finish();
    }

    private static void eastAndSouth() {
        Expect.sentence("the CELL beside one to the EAST has a number 1 more (none beside the last one of a row), "
                + "that to the SOUTH 4 more (none from 12 on)");
        for (int c = 0; c < 16; c++) {
            for (boolean isEast : new boolean[] {true, false}) {
                int cell = c;
                int beside = Fields.beside(c, isEast);
                String place = c + (isEast ? " east" : " south");
                if (beside < 0) {
                    Expect.bounds("fault: " + place, () -> new PoreField().fault(cell, isEast, true));
                    Expect.bounds("keptBack: " + place, () -> new PoreField().keptBack(cell, isEast, 1));
                } else {
                    Expect.due(place, oilIn(cell, 20, beside, 20), () -> spread(cell, isEast, cell));
                    Expect.due(place + ", back", oilIn(cell, 20, beside, 20), () -> spread(cell, isEast, beside));
                }
            }
        }
    }

    private static String spread(int cell, boolean isEast, int from) {
        PoreField x = Fields.oilIn(from, 40);
        x.fault(cell, isEast, false);
        x.pass(1);
        int[] oil = new int[16];
        for (int c = 0; c < 16; c++) {
            oil[c] = x.ofCell(c, 1);
        }
        return Expect.row(oil);
    }

    private static String oilIn(int cell, int oil, int other, int more) {
        int[] row = new int[16];
        row[cell] = oil;
        row[other] = more;
        return Expect.row(row);
    }

    private static void atFirst() {
        PoreField x = new PoreField();
        for (int c = 0; c < 16; c++) {
            int cell = c;
            Expect.sentence("Each has ROOM (10 to 90; 40 at first)");
            Expect.due("ofCell(" + c + ", 0)", 40, () -> x.ofCell(cell, 0));
            Expect.sentence("0 OIL, 1 WATER, 2 GAS (0 of each at first");
            Expect.due("the fluids of " + c, "[0, 0, 0]", () -> Fields.fluids(x, cell));
            Expect.sentence("there can be a FAULT (none at first)");
            if (Fields.beside(c, true) >= 0) {
                Expect.due("fault(" + c + ", true, false)", false, () -> x.fault(cell, true, false));
            }
            if (Fields.beside(c, false) >= 0) {
                Expect.due("fault(" + c + ", false, false)", false, () -> x.fault(cell, false, false));
            }
        }
        Expect.due("many(13)", 0, () -> x.many(13));
        // The room that was never told divides as any other one: 18 of water are put in.
        Expect.sentence("Each has ROOM (10 to 90; 40 at first)");
        PoreField y = Fields.walled();
        Fields.drill(y, 1, 7, 9);
        y.pass(1);
        Expect.due("the pressure of 18 in a room never told", 45, () -> y.ofCell(7, 4));
    }

    private static void rooms() {
        Expect.sentence("ROOM (10 to 90");
        int[][] due = {{10, 990}, {11, 900}, {89, 111}, {90, 110}};
        for (int[] pair : due) {
            PoreField x = new PoreField();
            Expect.due("cell(15, " + pair[0] + ", 99, 0, 0)", pair[1], () -> x.cell(15, pair[0], 99, 0, 0));
            Expect.due("its room", pair[0], () -> x.ofCell(15, 0));
            Expect.due("its pressure", pair[1], () -> x.ofCell(15, 4));
            Expect.due("the room of the one ahead", 40, () -> x.ofCell(14, 0));
        }
        Expect.argument("a room of 9", () -> new PoreField().cell(0, 9, 0, 0, 0));
        Expect.argument("a room of 91", () -> new PoreField().cell(0, 91, 0, 0, 0));
    }

    private static void fluids() {
        Expect.sentence("0 to 99 as they are told");
        for (int much : new int[] {0, 1, 98, 99}) {
            PoreField x = new PoreField();
            x.cell(0, 40, much, 5, 6);
            Expect.due("oil of " + much, Expect.row(much, 5, 6), () -> Fields.fluids(x, 0));
            x.cell(0, 40, 4, much, 6);
            Expect.due("water of " + much, Expect.row(4, much, 6), () -> Fields.fluids(x, 0));
            x.cell(0, 40, 4, 5, much);
            Expect.due("gas of " + much, Expect.row(4, 5, much), () -> Fields.fluids(x, 0));
            Expect.due("of all cells", Expect.row(4, 5, much), () -> Expect.row(x.many(2), x.many(3), x.many(4)));
        }
        // It is only as they are told that they end at 99: 99 and 18 of water, 99 and 8 of gas, and 99 and 6 of oil.
        PoreField x = Fields.walled();
        x.cell(3, 90, 0, 99, 0);
        Fields.drill(x, 1, 3, 9);
        x.pass(1);
        Expect.due("water above 99", "[0, 117, 0]", () -> Fields.fluids(x, 3));
        Expect.due("its pressure", 130, () -> x.ofCell(3, 4));
        PoreField y = Fields.oneProducer(10, 0, 0, 50, 1);
        y.cell(5, 90, 0, 0, 99);
        Fields.drill(y, 2, 5, 4);
        y.pass(1);
        Expect.due("gas above 99", "[0, 0, 107]", () -> Fields.fluids(y, 5));
        PoreField z = Fields.walled();
        z.fault(0, true, false);
        z.cell(0, 90, 99, 0, 0);
        z.cell(1, 40, 99, 0, 0);
        z.pass(1);
        Expect.due("oil above 99", "[105, 0, 0]", () -> Fields.fluids(z, 0));
        // Told again, it has what it is told.
        Expect.due("cell(0, 90, 1, 0, 0)", 1, () -> z.cell(0, 90, 1, 0, 0));
        Expect.due("its fluids", "[1, 0, 0]", () -> Fields.fluids(z, 0));
    }

    private static void pressure() {
        Expect.sentence("its PRESSURE 100 times ALL, divided by ROOM");
        // The room, the fluids, and the pressure: right below a whole one, on it, and right above it.
        int[][] due = {
            {90, 0, 0, 0, 0}, {90, 1, 0, 0, 1}, {90, 8, 0, 0, 8}, {90, 9, 0, 0, 10}, {90, 10, 0, 0, 11},
            {90, 20, 20, 4, 48}, {90, 20, 20, 5, 50}, {90, 20, 20, 6, 51},
            {40, 0, 0, 1, 2}, {40, 0, 2, 0, 5}, {40, 1, 1, 1, 7},
            {89, 29, 30, 30, 100}, {89, 29, 30, 29, 98}, {89, 30, 30, 30, 101},
            {10, 0, 0, 1, 10}, {10, 99, 99, 98, 2960}, {10, 99, 99, 99, 2970}, {11, 99, 99, 99, 2700},
            {90, 99, 99, 99, 330}};
        for (int[] d : due) {
            PoreField x = new PoreField();
            Expect.due("cell(9" + Expect.row(d) + ")", d[4], () -> x.cell(9, d[0], d[1], d[2], d[3]));
            Expect.due("ofCell(9, 4)", d[4], () -> x.ofCell(9, 4));
        }
    }

    private static void faultsAreKeptApart() {
        Expect.sentence("Between two CELLS beside each other there can be a FAULT");
        PoreField x = new PoreField();
        int count = 0;
        for (int c = 0; c < 16; c++) {
            for (boolean isEast : new boolean[] {true, false}) {
                if (Fields.beside(c, isEast) >= 0) {
                    int cell = c;
                    int faults = ++count;
                    Expect.due("fault(" + c + ")", false, () -> x.fault(cell, isEast, true));
                    Expect.due("fault(" + c + ") again", true, () -> x.fault(cell, isEast, true));
                    Expect.due("many(13)", faults, () -> x.many(13));
                }
            }
        }
        Expect.due("how many places", 24, () -> x.many(13));
        Expect.due("fault(5, true, false)", true, () -> x.fault(5, true, false));
        Expect.due("fault(5, true, false) again", false, () -> x.fault(5, true, false));
        Expect.due("many(13)", 23, () -> x.many(13));
        Expect.due("fault(5, false, true): the other one is there still", true, () -> x.fault(5, false, true));
    }

    private static void nothingGoesThroughAFault() {
        Expect.sentence("through which nothing goes");
        for (boolean isEast : new boolean[] {true, false}) {
            int beside = Fields.beside(5, isEast);
            PoreField x = Fields.oilIn(5, 0);
            x.cell(5, 10, 99, 99, 99);
            x.pass(3);
            Expect.due("out of it", "[99, 99, 99]", () -> Fields.fluids(x, 5));
            Expect.due("into the other one", "[0, 0, 0]", () -> Fields.fluids(x, beside));
            x.cell(5, 10, 0, 0, 0);
            x.cell(beside, 10, 99, 99, 99);
            x.pass(3);
            Expect.due("back into it", "[0, 0, 0]", () -> Fields.fluids(x, 5));
            x.fault(5, isEast, false);
            x.pass(1);
            Expect.due("back into it without a fault", true, () -> x.ofCell(5, 1) > 0);
        }
    }

    private static void movesAreRoundedDown() {
        Expect.sentence("of OIL and WATER each that times a, divided by ALL");
        // With a choke of 1, 4 of 50 times: 4 * 12 / 50 is 0, 4 * 13 / 50 is 1, 4 * 25 / 50 is 2.
        int[][] due = {{12, 13, 0, 1}, {13, 12, 1, 0}, {24, 26, 1, 2}, {25, 25, 2, 2}, {26, 24, 2, 1}, {37, 13, 2, 1},
            {38, 12, 3, 0}, {50, 0, 4, 0}, {0, 50, 0, 4}};
        for (int[] d : due) {
            int rest = 50 - d[0] - d[1];
            // What is neither oil nor water is gas: of it 2 * 4 / 50 goes.
            PoreField x = Fields.oneProducer(10, d[0], d[1], rest, 1);
            x.pass(1);
            Expect.due("of " + Expect.row(d[0], d[1], rest), Expect.row(d[2], d[3], rest * 8 / 50),
                    () -> Fields.gave(x, 0));
            Expect.due("what stays of " + Expect.row(d[0], d[1], rest),
                    Expect.row(d[0] - d[2], d[1] - d[3], rest - rest * 8 / 50), () -> Fields.fluids(x, 0));
        }
    }

    private static void gasGoesTwice() {
        Expect.sentence("of GAS twice that (its GAS times 2, times a, divided by ALL), no more than there is of it");
        // With a choke of 6 and a room of 10: 13 times of 28, 15 of 30, 17 of 34, 21 of 40.
        int[][] due = {
            {18, 10, 8, 9}, {20, 10, 10, 10}, {24, 10, 12, 10}, {20, 20, 10, 20}, {12, 16, 5, 14}, {14, 16, 7, 16},
            {0, 28, 0, 26}, {0, 30, 0, 30}, {0, 40, 0, 40}};
        for (int[] d : due) {
            PoreField x = Fields.oneProducer(10, d[0], 0, d[1], 6);
            x.permit(99);
            x.pass(1);
            Expect.due("of " + d[0] + " oil and " + d[1] + " gas", Expect.row(d[2], 0, d[3]), () -> Fields.gave(x, 0));
            Expect.due("what stays of the gas", d[1] - d[3], () -> x.ofCell(0, 3));
        }
        // Twice ahead of rounding down: 2 * 7 * 4 / 50 is 1, twice 7 * 4 / 50 is 0.
        PoreField y = Fields.oneProducer(10, 43, 0, 7, 1);
        y.pass(1);
        Expect.due("of 43 oil and 7 gas", "[3, 0, 1]", () -> Fields.gave(y, 0));
        // Between cells it is the same: 2 * 4 * 5 / 10 is 4, all there is.
        PoreField z = Fields.oilIn(0, 0);
        z.fault(0, true, false);
        z.cell(0, 10, 6, 0, 4);
        z.pass(1);
        Expect.due("what stays", "[3, 0, 0]", () -> Fields.fluids(z, 0));
        Expect.due("what goes", "[3, 0, 4]", () -> Fields.fluids(z, 1));
    }

    private static void allByWhatThereWas() {
        Expect.sentence("(All by what there was; a is ALL at most; nothing, if ALL is 0.)");
        // 15 of 30 times: by what is left when oil has gone, water would be 10 * 15 / 25, and gas more than 9.
        PoreField x = Fields.oneProducer(10, 10, 10, 10, 6);
        x.pass(1);
        Expect.due("what it gave", "[5, 5, 10]", () -> Fields.gave(x, 0));
        // 9 * (300 - 50) / 100 is 22 of 30: 2 * 3 * 22 / 30 is 4, of which there are 3.
        PoreField y = Fields.oneProducer(10, 20, 7, 3, 9);
        y.pass(1);
        Expect.due("what it gave", "[14, 5, 3]", () -> Fields.gave(y, 0));
    }

    private static void nothingIfAllIsZero() {
        Expect.sentence("nothing, if ALL is 0");
        PoreField x = Fields.oneProducer(10, 0, 0, 0, 9);
        Expect.due("pass(24) of an empty cell", 0, () -> x.pass(24));
        Expect.due("what it gave", "[0, 0, 0]", () -> Fields.gave(x, 0));
        Expect.due("what the cell has", "[0, 0, 0]", () -> Fields.fluids(x, 0));
        // One single thing, in the least room and in the greatest one: no pressure above 50, and no difference of 20.
        for (int room : new int[] {10, 90}) {
            PoreField y = new PoreField();
            y.cell(5, room, 1, 0, 0);
            Fields.drill(y, 0, 5, 9);
            Expect.due("pass(24) of 1 in a room of " + room, 0, () -> y.pass(24));
            Expect.due("what the cell has", "[1, 0, 0]", () -> Fields.fluids(y, 5));
        }
        PoreField z = new PoreField();
        Expect.due("pass(24) of empty cells without faults", 0, () -> z.pass(24));
        Expect.due("meanPressure()", 0.0, () -> z.meanPressure());
    }

    private static void meanIsNotRounded() {
        Expect.sentence("the mean PRESSURE of all CELLS, each as ofCell() tells it, not rounded");
        PoreField x = new PoreField();
        // 100 / 90 is 1 for a cell, as ofCell() tells it: a sixteenth for each.
        for (int c = 0; c < 16; c++) {
            int cell = c;
            x.cell(cell, 90, 1, 0, 0);
            Expect.due("meanPressure() of " + (c + 1), (c + 1) / 16.0, () -> x.meanPressure());
        }
        x.cell(15, 90, 0, 0, 0);
        Expect.due("meanPressure() of 15", 0.9375, () -> x.meanPressure());
        for (int c = 0; c < 16; c++) {
            x.cell(c, 10, 99, 99, 99);
        }
        Expect.due("the greatest meanPressure()", 2970.0, () -> x.meanPressure());
        x.cell(0, 10, 99, 99, 98);
        Expect.due("right below it", 2969.375, () -> x.meanPressure());
    }
}
