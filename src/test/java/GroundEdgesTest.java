/** The sentences of a month's steps (2) to (4) that name a limit, on its edges; promise 21. */
final class GroundEdgesTest {
    public static void main(String[] args) {
        gasPutBack();
        gasByNumbers();
        waterBelow200();
        waterByNow();
        differBy20();
        theGreatestDifference();
        greaterPressure();
        eastThenSouth();
        counts();
        Expect.finish();
    }

    // ---- (2) and (3)

    private static void gasPutBack() {
        Expect.sentence("each puts up to 2 times its CHOKE of that GAS into its CELL. What is left of it is FLARED.");
        // 8 of gas, and the choke of the injector.
        int[][] due = {{0, 0, 8}, {1, 2, 6}, {3, 6, 2}, {4, 8, 0}, {5, 8, 0}, {9, 8, 0}};
        for (int[] d : due) {
            PoreField x = Fields.oneProducer(10, 0, 0, 50, 1);
            Fields.drill(x, 2, 5, d[0]);
            x.pass(1);
            Expect.due("put in with a choke of " + d[0], Expect.row(0, 0, d[1]), () -> Fields.gave(x, 1));
            Expect.due("its cell", Expect.row(0, 0, d[1]), () -> Fields.fluids(x, 5));
            Expect.due("flared", d[2], () -> x.many(9));
            Expect.due("put back", d[1], () -> x.many(10));
            Expect.due("the field's money", -d[2], () -> x.many(12));
        }
    }

    private static void gasByNumbers() {
        Expect.sentence("GAS INJECTORS by numbers");
        // 8 of gas for two injectors; the rank is nothing to them.
        int[][] due = {{3, 3, 6, 2}, {4, 4, 8, 0}, {2, 1, 4, 2}, {0, 9, 0, 8}, {9, 9, 8, 0}};
        for (int[] d : due) {
            PoreField x = Fields.oneProducer(10, 0, 0, 50, 1);
            Fields.drill(x, 2, 9, d[0]);
            Fields.drill(x, 2, 5, d[1]);
            x.rank(1, 9);
            x.rank(2, 1);
            x.pass(1);
            Expect.due("with chokes " + Expect.row(d[0], d[1]), Expect.row(d[2], d[3]),
                    () -> Expect.row(x.ofWell(1, 10), x.ofWell(2, 10)));
            Expect.due("put back", d[2] + d[3], () -> x.many(10));
            Expect.due("flared", 8 - d[2] - d[3], () -> x.many(9));
        }
        // An injector that is the first of all wells.
        PoreField z = Fields.walled();
        z.cell(0, 10, 0, 0, 50);
        Fields.drill(z, 2, 5, 3);
        Fields.drill(z, 0, 0, 1);
        z.pass(1);
        Expect.due("the first of all wells", "[0, 0, 6]", () -> Fields.gave(z, 0));
        Expect.due("flared", 2, () -> z.many(9));
        // Gas of a month is there for this month alone.
        PoreField y = Fields.oneProducer(10, 0, 0, 50, 1);
        y.pass(1);
        Fields.drill(y, 2, 5, 9);
        y.choke(0, 0);
        y.pass(1);
        Expect.due("put in the month behind", 0, () -> y.many(10));
        Expect.due("flared the month ahead", 8, () -> y.many(9));
    }

    private static void waterBelow200() {
        Expect.sentence("each puts 2 times its CHOKE of WATER into its CELL, if that has a PRESSURE below 200 by now");
        // The room, the water, the pressure (199 is none that a room can have), the choke, and what is put in.
        int[][] due = {{90, 89, 98, 9, 18}, {50, 99, 198, 9, 18}, {49, 98, 200, 9, 0}, {47, 95, 202, 9, 0},
            {10, 19, 190, 9, 18}, {10, 20, 200, 9, 0}, {10, 21, 210, 9, 0}, {10, 19, 190, 1, 2}, {10, 19, 190, 0, 0},
            {10, 0, 0, 9, 18}, {10, 99, 990, 9, 0}};
        for (int[] d : due) {
            PoreField x = Fields.walled();
            Expect.due("the pressure of " + Expect.row(d), d[2], () -> x.cell(6, d[0], 0, d[1], 0));
            Fields.drill(x, 1, 6, d[3]);
            x.pass(1);
            Expect.due("put in of " + Expect.row(d), Expect.row(0, d[4], 0), () -> Fields.gave(x, 0));
            Expect.due("its cell", Expect.row(0, d[1] + d[4], 0), () -> Fields.fluids(x, 6));
            Expect.due("many(11)", d[4], () -> x.many(11));
        }
        // Near 200 in the greatest room, with all three fluids: 198, 200 and 201.
        for (int much = 59; much <= 61; much++) {
            PoreField x = Fields.walled();
            x.cell(6, 90, 60, 60, much);
            Fields.drill(x, 1, 6, 9);
            x.pass(1);
            int put = much < 60 ? 18 : 0;
            Expect.due("put in with " + much + " of gas", put, () -> x.many(11));
        }
    }

    private static void waterByNow() {
        Expect.sentence("if that has a PRESSURE below 200 by now");
        // Two of one cell: the first one takes it to 190, to 200, to 210.
        int[][] due = {{17, 2, 2}, {18, 2, 0}, {19, 2, 0}};
        for (int[] d : due) {
            PoreField x = Fields.walled();
            x.cell(6, 10, 0, d[0], 0);
            Fields.drill(x, 1, 6, 1);
            Fields.drill(x, 1, 6, 1);
            x.pass(1);
            Expect.due("two into " + d[0], Expect.row(d[1], d[2]), () -> Expect.row(x.ofWell(0, 9), x.ofWell(1, 9)));
        }
        Expect.sentence("WATER INJECTORS by numbers");
        PoreField x = Fields.walled();
        x.cell(6, 10, 0, 18, 0);
        Fields.drill(x, 1, 6, 1);
        Fields.drill(x, 1, 6, 3);
        x.rank(0, 9);
        x.rank(1, 1);
        x.pass(1);
        Expect.due("two into 18, by their ranks the other way", "[2, 0]",
                () -> Expect.row(x.ofWell(0, 9), x.ofWell(1, 9)));
        Expect.sentence("if that has a PRESSURE below 200 by now");
        // Behind what came up: 1 * 150 / 100 of 20 is one, and 19 make 190.
        PoreField y = Fields.walled();
        y.cell(6, 10, 20, 0, 0);
        Fields.drill(y, 1, 6, 2);
        Fields.drill(y, 0, 6, 1);
        y.pass(1);
        Expect.due("behind what came up", "[0, 4, 0]", () -> Fields.gave(y, 0));
        // Behind the gas that was put in: 2 and 18 make 200, 2 and 17 make 190.
        for (int much = 17; much <= 18; much++) {
            PoreField z = Fields.oneProducer(10, 0, 0, 50, 1);
            z.cell(6, 10, 0, much, 0);
            Fields.drill(z, 1, 6, 2);
            Fields.drill(z, 2, 6, 1);
            z.pass(1);
            Expect.due("behind gas put in to " + much, much == 17 ? 4 : 0, () -> z.ofWell(1, 9));
        }
    }

    // ---- (4)

    private static void differBy20() {
        Expect.sentence("as often as PRESSURES differ by 20, whole, so many times it MOVES");
        // The rooms and the oil of the two, their pressures, and how much goes from the one to the other.
        int[][] due = {
            {47, 9, 19, 40, 0, 0, 0}, {50, 10, 20, 40, 0, 0, 1}, {47, 10, 21, 40, 0, 0, 1},
            {51, 20, 39, 40, 0, 0, 1}, {50, 20, 40, 40, 0, 0, 2}, {80, 33, 41, 40, 0, 0, 2},
            {10, 30, 300, 10, 29, 290, 0}, {10, 30, 300, 10, 28, 280, 1}, {10, 30, 300, 10, 27, 270, 1},
            {10, 30, 300, 10, 26, 260, 2}, {10, 30, 300, 10, 30, 300, 0},
            // By pressures as they are rounded down: 30 and 10 differ by 20, though 3 / 10 and 5 / 46 do not.
            {10, 3, 30, 46, 5, 10, 1}, {67, 20, 29, 10, 1, 10, 0},
            {10, 99, 990, 10, 0, 0, 49}};
        for (int[] d : due) {
            for (boolean isEast : new boolean[] {true, false}) {
                int other = Fields.beside(5, isEast);
                differ(isEast, d, 5, other);
                differ(isEast, d, other, 5);
            }
        }
    }

    private static void differ(boolean isEast, int[] d, int from, int to) {
        PoreField x = Fields.walled();
        x.fault(5, isEast, false);
        String call = Expect.row(d) + " from " + from + " to " + to;
        Expect.due("the one pressure of " + call, d[2], () -> x.cell(from, d[0], d[1], 0, 0));
        Expect.due("the other pressure of " + call, d[5], () -> x.cell(to, d[3], d[4], 0, 0));
        x.pass(1);
        Expect.due("what " + call + " has then", d[1] - d[6], () -> x.ofCell(from, 1));
        Expect.due("what the other one has then", d[4] + d[6], () -> x.ofCell(to, 1));
    }

    private static void theGreatestDifference() {
        Expect.sentence("as often as PRESSURES differ by 20, whole, so many times it MOVES");
        // 2970, 2960 and 2950 differ from 0 by 148, 148 and 147 times 20: of 98 water 98 * 148 / 296 is 49.
        int[][] due = {{99, 99, 99, 49, 49, 98}, {99, 98, 99, 49, 49, 99}, {98, 98, 99, 48, 48, 98}};
        for (int[] d : due) {
            for (boolean isEast : new boolean[] {true, false}) {
                int other = Fields.beside(5, isEast);
                for (int from : new int[] {5, other}) {
                    PoreField x = Fields.walled();
                    x.fault(5, isEast, false);
                    x.cell(from, 10, d[0], d[1], d[2]);
                    x.pass(1);
                    String call = Expect.row(d[0], d[1], d[2]) + " in " + from;
                    Expect.due("what goes of " + call, Expect.row(d[3], d[4], d[5]),
                            () -> Fields.fluids(x, 5 + other - from));
                    Expect.due("what stays of " + call, Expect.row(d[0] - d[3], d[1] - d[4], d[2] - d[5]),
                            () -> Fields.fluids(x, from));
                }
            }
        }
    }

    private static void greaterPressure() {
        Expect.sentence("out of the one with the greater PRESSURE into the other one");
        // It has less in it, but less room: 100 and 44.
        PoreField x = Fields.walled();
        x.fault(5, true, false);
        x.cell(5, 90, 40, 0, 0);
        x.cell(6, 10, 10, 0, 0);
        x.pass(1);
        Expect.due("the greater one", "[42, 0, 0]", () -> Fields.fluids(x, 5));
        Expect.due("the one with the greater pressure", "[8, 0, 0]", () -> Fields.fluids(x, 6));
        // Equal pressures, whatever is in the cells.
        PoreField y = Fields.walled();
        y.fault(5, false, false);
        y.cell(5, 20, 40, 0, 0);
        y.cell(9, 40, 0, 60, 20);
        y.pass(1);
        Expect.due("of 200", "[40, 0, 0]", () -> Fields.fluids(y, 5));
        Expect.due("of 200, too", "[0, 60, 20]", () -> Fields.fluids(y, 9));
    }

    private static void eastThenSouth() {
        Expect.sentence("CELL by CELL, first with the one to the EAST, then with the one to the SOUTH");
        PoreField x = Fields.oilIn(0, 40);
        x.fault(0, true, false);
        x.fault(0, false, false);
        x.pass(1);
        // 400 and 0 differ 20 times by 20, and then 200 and 0 ten times.
        Expect.due("first to the east, then to the south", "[10, 20, 10]",
                () -> Expect.row(x.ofCell(0, 1), x.ofCell(1, 1), x.ofCell(4, 1)));
        Expect.sentence("(of several such pairs each by what there is by now)");
        // Cell by cell: what comes from the one ahead goes on in the same month.
        PoreField y = Fields.oilIn(0, 80);
        for (int c = 0; c < 3; c++) {
            y.fault(c, true, false);
        }
        y.fault(3, false, false);
        y.pass(1);
        Expect.due("along the row, and down", "[40, 20, 10, 5, 5]",
                () -> Expect.row(y.ofCell(0, 1), y.ofCell(1, 1), y.ofCell(2, 1), y.ofCell(3, 1), y.ofCell(7, 1)));
        // To the south of the cell 0, ahead of the east of the cell 4.
        PoreField v = Fields.oilIn(0, 40);
        v.fault(0, false, false);
        v.fault(4, true, false);
        v.pass(1);
        Expect.due("down, and along the next row", "[20, 10, 10]",
                () -> Expect.row(v.ofCell(0, 1), v.ofCell(4, 1), v.ofCell(5, 1)));
        // The other way it goes one cell a month.
        PoreField z = Fields.oilIn(3, 80);
        for (int c = 0; c < 3; c++) {
            z.fault(c, true, false);
        }
        z.pass(1);
        Expect.due("against the row", "[0, 0, 40, 40]",
                () -> Expect.row(z.ofCell(0, 1), z.ofCell(1, 1), z.ofCell(2, 1), z.ofCell(3, 1)));
    }

    private static void counts() {
        Expect.sentence("5 to 7 that came up ever, 8 what the TANK has, 9 GAS that was FLARED ever, 10 that was put "
                + "back, 11 WATER that was put in ever");
        PoreField x = Fields.oneProducer(10, 20, 20, 10, 2);
        Fields.drill(x, 2, 5, 1);
        Fields.drill(x, 1, 6, 2);
        Expect.due("ahead of a month", "[0, 3, 20, 20, 10, 0, 0, 0, 0, 0, 0, 0, 0, 24, 0]", () -> Fields.many(x));
        x.pass(1);
        Expect.due("a month on", "[1, 3, 17, 21, 9, 3, 3, 3, 3, 1, 2, 4, -1, 24, 0]", () -> Fields.many(x));
        x.lift(0, 2);
        Expect.due("behind a ship", "[1, 3, 17, 21, 9, 3, 3, 3, 1, 1, 2, 4, -1, 24, 0]", () -> Fields.many(x));
        // 2 * 360 / 100 is 7 of 41: 17 * 7 / 41 is 2, twice, and 2 * 7 * 7 / 41 is 2.
        x.pass(1);
        Expect.due("two months on", "[2, 3, 15, 23, 9, 5, 5, 5, 3, 1, 4, 8, -1, 24, 0]", () -> Fields.many(x));
        Expect.argument("many(-1)", () -> x.many(-1));
        Expect.argument("many(15)", () -> x.many(15));
    }
}
