/** Promises 1 (a new object), 2 (cell), 3 (fault), 17 (ofCell) and 22 (meanPressure). */
final class CellsTest {
    public static void main(String[] args) {
        newField();
        toldCells();
        wrongCells();
        faults();
        wrongFaults();
        meanPressure();
        Expect.finish();
    }

    private static void newField() {
        PoreField x = new PoreField();
        Expect.due("many() of a new field", Expect.row(new int[15]), () -> Fields.many(x));
        for (int c = 0; c < 16; c++) {
            int cell = c;
            Expect.due("the room of " + c, 40, () -> x.ofCell(cell, 0));
            Expect.due("the fluids of " + c, "[0, 0, 0]", () -> Fields.fluids(x, cell));
            Expect.due("the pressure of " + c, 0, () -> x.ofCell(cell, 4));
        }
        Expect.bounds("ofWell(0, 0) without wells", () -> x.ofWell(0, 0));
        Expect.due("partner 0", "[100, 0, 0, 0]", () -> Fields.partner(x, 0));
        Expect.due("partner 1", "[0, 0, 0, 0]", () -> Fields.partner(x, 1));
        Expect.due("partner 2", "[0, 0, 0, 0]", () -> Fields.partner(x, 2));
        Expect.due("booked() without a booking", "[0, 0, 0, 0, -1]", () -> Fields.booked(x));
        Expect.due("meanPressure()", 0.0, () -> x.meanPressure());
        Expect.due("many(0) of another new field", 0, () -> {
            x.pass(3);
            return new PoreField().many(0);
        });
    }

    private static void toldCells() {
        PoreField x = new PoreField();
        Expect.due("cell(0, 40, 1, 2, 3)", 15, () -> x.cell(0, 40, 1, 2, 3));
        Expect.due("its room", 40, () -> x.ofCell(0, 0));
        Expect.due("its fluids", "[1, 2, 3]", () -> Fields.fluids(x, 0));
        Expect.due("its pressure", 15, () -> x.ofCell(0, 4));
        Expect.due("cell(15, 10, 99, 99, 99)", 2970, () -> x.cell(15, 10, 99, 99, 99));
        Expect.due("cell(7, 90, 0, 0, 0)", 0, () -> x.cell(7, 90, 0, 0, 0));
        Expect.due("its room", 90, () -> x.ofCell(7, 0));
        Expect.due("cell(7, 90, 44, 0, 0) rounds down", 48, () -> x.cell(7, 90, 44, 0, 0));
        Expect.due("cell(0, 20, 0, 5, 0) again", 25, () -> x.cell(0, 20, 0, 5, 0));
        Expect.due("its fluids then", "[0, 5, 0]", () -> Fields.fluids(x, 0));
        Expect.due("many(2)", 143, () -> x.many(2));
        Expect.due("many(3)", 104, () -> x.many(3));
        Expect.due("many(4)", 99, () -> x.many(4));
    }

    private static void wrongCells() {
        PoreField x = new PoreField();
        x.cell(3, 30, 1, 2, 3);
        long before = x.digest();
        Expect.bounds("cell(-1, 9, -1, -1, -1)", () -> x.cell(-1, 9, -1, -1, -1));
        Expect.bounds("cell(16, 40, 0, 0, 0)", () -> x.cell(16, 40, 0, 0, 0));
        Expect.bounds("cell(MIN_VALUE, 40, 0, 0, 0)", () -> x.cell(Integer.MIN_VALUE, 40, 0, 0, 0));
        Expect.argument("cell(3, 9, 0, 0, 0)", () -> x.cell(3, 9, 0, 0, 0));
        Expect.argument("cell(3, 91, 0, 0, 0)", () -> x.cell(3, 91, 0, 0, 0));
        Expect.argument("cell(3, 0, 0, 0, 0)", () -> x.cell(3, 0, 0, 0, 0));
        Expect.argument("cell(3, 40, -1, 0, 0)", () -> x.cell(3, 40, -1, 0, 0));
        Expect.argument("cell(3, 40, 100, 0, 0)", () -> x.cell(3, 40, 100, 0, 0));
        Expect.argument("cell(3, 40, 0, -1, 0)", () -> x.cell(3, 40, 0, -1, 0));
        Expect.argument("cell(3, 40, 0, 100, 0)", () -> x.cell(3, 40, 0, 100, 0));
        Expect.argument("cell(3, 40, 0, 0, -1)", () -> x.cell(3, 40, 0, 0, -1));
        Expect.argument("cell(3, 40, 0, 0, 100)", () -> x.cell(3, 40, 0, 0, 100));
        Expect.bounds("ofCell(-1, 9)", () -> x.ofCell(-1, 9));
        Expect.bounds("ofCell(16, 0)", () -> x.ofCell(16, 0));
        Expect.argument("ofCell(0, -1)", () -> x.ofCell(0, -1));
        Expect.argument("ofCell(0, 5)", () -> x.ofCell(0, 5));
        Expect.due("the digest behind all of these", before, () -> x.digest());
    }

    private static void faults() {
        PoreField x = new PoreField();
        Expect.due("fault(0, true, true)", false, () -> x.fault(0, true, true));
        Expect.due("fault(0, false, false)", false, () -> x.fault(0, false, false));
        Expect.due("fault(0, true, true) again", true, () -> x.fault(0, true, true));
        Expect.due("many(13)", 1, () -> x.many(13));
        Expect.due("fault(11, false, true)", false, () -> x.fault(11, false, true));
        Expect.due("fault(14, true, true)", false, () -> x.fault(14, true, true));
        Expect.due("many(13)", 3, () -> x.many(13));
        Expect.due("fault(0, true, false)", true, () -> x.fault(0, true, false));
        Expect.due("fault(0, true, false) again", false, () -> x.fault(0, true, false));
        Expect.due("many(13)", 2, () -> x.many(13));
        Expect.due("many(13) with all faults", 24, () -> Fields.walled().many(13));
    }

    private static void wrongFaults() {
        PoreField x = new PoreField();
        Expect.bounds("fault(-1, true, true)", () -> x.fault(-1, true, true));
        Expect.bounds("fault(-4, false, true)", () -> x.fault(-4, false, true));
        Expect.bounds("fault(16, false, true)", () -> x.fault(16, false, true));
        Expect.bounds("fault(MAX_VALUE, true, true)", () -> x.fault(Integer.MAX_VALUE, true, true));
        for (int c = 3; c < 16; c += 4) {
            int last = c;
            Expect.bounds("fault(" + c + ", true, true)", () -> x.fault(last, true, true));
        }
        for (int c = 12; c < 16; c++) {
            int last = c;
            Expect.bounds("fault(" + c + ", false, true)", () -> x.fault(last, false, true));
        }
        Expect.due("many(13) behind all of these", 0, () -> x.many(13));
    }

    private static void meanPressure() {
        PoreField x = new PoreField();
        x.cell(0, 40, 10, 0, 0);
        x.cell(5, 90, 0, 1, 0);
        // 25 and 1 (not 1.11): 26 in 16 cells.
        Expect.due("meanPressure()", 1.625, () -> x.meanPressure());
        x.cell(0, 10, 99, 99, 99);
        Expect.due("meanPressure()", 185.6875, () -> x.meanPressure());
    }
}
