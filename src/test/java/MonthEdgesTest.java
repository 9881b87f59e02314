/** The sentences of a month's step (1) that name a limit, on its edges; promise 14. */
final class MonthEdgesTest {
    public static void main(String[] args) {
        now();
        monthByMonth();
        smallerRanksFirst();
        pressureAbove50();
        wantsAreRoundedDown();
        pressureByNow();
        capacityOfEachFluid();
        whatIsLeftOfACapacity();
        roomOfTheTank();
        permitAndInjectors();
        whatInjectorsCanTake();
        whatIsLeftOfThePermit();
        Expect.finish();
    }

    private static PoreField producer(int oil, int water, int gas) {
        return Fields.oneProducer(10, oil, water, gas, 9);
    }

    private static String gaveIn1(PoreField x) {
        x.pass(1);
        return Fields.gave(x, 0);
    }

    private static void now() {
        Expect.sentence("NOW is 1 more (0 at first).");
        PoreField x = new PoreField();
        Expect.due("many(0)", 0, () -> x.many(0));
        int now = 0;
        for (int months : new int[] {1, 2, 23, 24}) {
            now += months;
            int due = now;
            x.pass(months);
            Expect.due("many(0) behind pass(" + months + ")", due, () -> x.many(0));
        }
        Expect.argument("pass(0)", () -> x.pass(0));
        Expect.argument("pass(25)", () -> x.pass(25));
        Expect.due("many(0) behind these", 50, () -> x.many(0));
        x.book();
        x.wouldGive(12);
        Expect.due("many(0) behind what would be", 50, () -> x.many(0));
    }

    private static void monthByMonth() {
        Expect.sentence("Returns how much OIL came up.");
        for (int months : new int[] {1, 2, 23, 24}) {
            PoreField x = allAtWork();
            PoreField y = allAtWork();
            int oil = 0;
            for (int m = 0; m < months; m++) {
                oil += y.pass(1);
            }
            int sum = oil;
            Expect.due("pass(" + months + ")", sum, () -> x.pass(months));
            Expect.due("all behind pass(" + months + ")", Whole.of(y), () -> Whole.of(x));
        }
        Expect.due("pass(24) without wells", 0, () -> new PoreField().pass(24));
    }

    private static PoreField allAtWork() {
        PoreField x = new PoreField();
        for (int c = 0; c < 16; c++) {
            x.cell(c, 10 + c, 99 - c, 20 + c, 3 * c);
        }
        Fields.drill(x, 0, 0, 2);
        Fields.drill(x, 0, 15, 1);
        Fields.drill(x, 1, 6, 3);
        Fields.drill(x, 2, 9, 1);
        x.shares(33, 33);
        x.test(1);
        return x;
    }

    // ---- (1) what a producer wants

    private static void smallerRanksFirst() {
        Expect.sentence("those with smaller RANKS first, of several by numbers");
        // The ranks of two wells, and which of them is first.
        int[][] due = {{5, 5, 0}, {5, 4, 1}, {4, 5, 0}, {1, 1, 0}, {9, 9, 0}, {1, 2, 0}, {2, 1, 1}, {8, 9, 0},
            {9, 8, 1}, {1, 9, 0}, {9, 1, 1}};
        for (int[] d : due) {
            PoreField x = producer(99, 0, 0);
            x.cell(1, 10, 99, 0, 0);
            Fields.drill(x, 0, 1, 9);
            x.rank(0, d[0]);
            x.rank(1, d[1]);
            x.capacity(0, 10);
            x.pass(1);
            Expect.due("ranks " + Expect.row(d[0], d[1]), d[2] == 0 ? "[10, 0]" : "[0, 10]",
                    () -> Expect.row(x.ofWell(0, 8), x.ofWell(1, 8)));
        }
        // Of six with two ranks, the third one and the fifth one are ahead of the others.
        PoreField y = Fields.walled();
        for (int w = 0; w < 6; w++) {
            y.cell(w, 10, 10, 0, 0);
            Fields.drill(y, 0, w, 2);
            y.rank(w, w == 2 || w == 4 ? 3 : 6);
        }
        y.capacity(0, 5);
        // Each wants 2 * 50 / 100.
        y.pass(1);
        Expect.due("five of six", "[1, 1, 1, 1, 1, 0]", () -> oil(y));
        for (int w = 0; w < 6; w++) {
            y.cell(w, 10, 10, 0, 0);
        }
        y.capacity(0, 3);
        y.pass(1);
        Expect.due("three of six", "[1, 0, 1, 0, 1, 0]", () -> oil(y));
    }

    private static String oil(PoreField x) {
        int[] row = new int[x.many(1)];
        for (int w = 0; w < row.length; w++) {
            row[w] = x.ofWell(w, 8);
        }
        return Expect.row(row);
    }

    private static void pressureAbove50() {
        Expect.sentence("its CHOKE times what the PRESSURE of its CELL (by now) is above 50 (0, if it is not)");
        // The room, the oil, the pressure, and what comes up with a choke of 9: 9 * 11 / 100 is 0, 9 * 12 / 100 is 1.
        int[][] due = {{90, 1, 1, 0}, {50, 19, 38, 0}, {51, 25, 49, 0}, {50, 25, 50, 0}, {49, 25, 51, 0},
            {90, 55, 61, 0}, {50, 31, 62, 1}, {63, 40, 63, 1}, {50, 36, 72, 1}, {37, 27, 72, 1}, {41, 30, 73, 2}};
        for (int[] d : due) {
            PoreField x = Fields.oneProducer(d[0], d[1], 0, 0, 9);
            Expect.due("the pressure of " + Expect.row(d), d[2], () -> x.ofCell(0, 4));
            Expect.due("pass(1) of " + Expect.row(d), d[3], () -> x.pass(1));
        }
    }

    private static void wantsAreRoundedDown() {
        Expect.sentence("divided by 100, ALL of its CELL at most");
        // With a choke of 1: a pressure of 149, of 150, of 151, of 248 and of 250.
        int[][] due = {{51, 76, 149, 0}, {50, 75, 150, 1}, {47, 71, 151, 1}, {35, 87, 248, 1}, {38, 95, 250, 2}};
        for (int[] d : due) {
            PoreField x = Fields.oneProducer(d[0], d[1], 0, 0, 1);
            Expect.due("the pressure of " + Expect.row(d), d[2], () -> x.ofCell(0, 4));
            Expect.due("pass(1) of " + Expect.row(d), d[3], () -> x.pass(1));
        }
        // What is wanted nears ALL most in the least room with the greatest choke: 9 * (990 - 50) / 100 of 99.
        PoreField y = producer(99, 0, 0);
        y.capacity(0, 99);
        Expect.due("pass(1) of 99 in a room of 10", 84, () -> y.pass(1));
        // The most that is ever told: 9 * (2970 - 50) / 100 is 262 of 297, which bring 87 each, and all of the gas.
        PoreField v = producer(99, 99, 99);
        v.permit(99);
        for (int f = 0; f < 3; f++) {
            v.capacity(f, 99);
        }
        Expect.due("of 99 of each fluid in a room of 10", "[87, 87, 99]", () -> gaveIn1(v));
        PoreField z = producer(99, 0, 0);
        z.capacity(0, 99);
        z.choke(0, 0);
        Expect.due("pass(1) with a choke of 0", 0, () -> z.pass(1));
    }

    private static void pressureByNow() {
        Expect.sentence("the PRESSURE of its CELL (by now)");
        // The first one takes 2 * 450 / 100, and then there are 41: 2 * 360 / 100.
        PoreField x = Fields.oneProducer(10, 50, 0, 0, 2);
        Fields.drill(x, 0, 0, 2);
        x.pass(1);
        Expect.due("two in a cell", "[9, 7]", () -> oil(x));
        PoreField y = Fields.oneProducer(10, 50, 0, 0, 2);
        Fields.drill(y, 0, 0, 2);
        y.rank(1, 4);
        y.pass(1);
        Expect.due("two in a cell, the second one first", "[7, 9]", () -> oil(y));
    }

    // ---- (1) what it gets

    private static void capacityOfEachFluid() {
        Expect.sentence("It gets that, or the greatest number below it, for which what would MOVE out of the CELL is, "
                + "of each FLUID, no more than is left of its CAPACITY in this MONTH");
        // The capacities for oil, water and gas, and what comes up of 30, 60 and 10: 85 times are wanted, which bring
        // 25, 51 and 10.
        int[][] due = {
            {99, 99, 99, 25, 51, 10}, {25, 51, 10, 25, 51, 10}, {26, 52, 11, 25, 51, 10},
            {24, 99, 99, 24, 49, 10}, {1, 99, 99, 1, 3, 1}, {0, 99, 99, 0, 1, 0},
            {99, 50, 99, 25, 50, 10}, {99, 41, 99, 20, 41, 10}, {99, 40, 99, 20, 40, 10}, {99, 39, 99, 19, 39, 10},
            {99, 1, 99, 0, 1, 0}, {99, 0, 99, 0, 0, 0},
            {99, 99, 9, 14, 29, 9}, {99, 99, 1, 2, 5, 1}, {99, 99, 0, 1, 2, 0},
            {24, 39, 9, 14, 29, 9}, {3, 39, 9, 3, 7, 2}, {24, 5, 9, 2, 5, 1}, {0, 0, 0, 0, 0, 0}};
        for (int[] d : due) {
            PoreField x = producer(30, 60, 10);
            x.permit(99);
            for (int f = 0; f < 3; f++) {
                x.capacity(f, d[f]);
            }
            Expect.due("capacities " + Expect.row(d[0], d[1], d[2]), Expect.row(d[3], d[4], d[5]), () -> gaveIn1(x));
        }
        theVeryLastTime();
        // A fluid that the cell has not needs no capacity.
        PoreField y = producer(30, 0, 0);
        y.capacity(1, 0);
        y.capacity(2, 0);
        y.permit(0);
        Expect.due("oil alone, without other capacities", "[22, 0, 0]", () -> gaveIn1(y));
        // 49 of 60 times are wanted, and from 30 on all 20 of the gas come up.
        int[][] gas = {{18, 18, 18}, {19, 19, 19}, {20, 32, 20}, {21, 32, 20}};
        for (int[] d : gas) {
            PoreField x = producer(40, 0, 20);
            x.permit(99);
            x.capacity(2, d[0]);
            Expect.due("a capacity for gas of " + d[0], Expect.row(d[1], 0, d[2]), () -> gaveIn1(x));
        }
    }

    /** Where one time more would bring one too many by as little as there is. */
    private static void theVeryLastTime() {
        // Of 20 and 21: 20 * 2 / 41 is 0 and 20 * 3 / 41 is 1; 20 * 4 / 41 is 1 and 20 * 5 / 41 is 2.
        int[][] due = {{0, 0, 1}, {1, 1, 2}, {2, 2, 3}};
        for (int[] d : due) {
            PoreField x = producer(20, 21, 0);
            x.capacity(0, d[0]);
            Expect.due("of 20 and 21 with " + d[0], Expect.row(d[1], d[2], 0), () -> gaveIn1(x));
            PoreField y = producer(21, 20, 0);
            y.capacity(1, d[0]);
            Expect.due("of 21 and 20 with " + d[0], Expect.row(d[2], d[1], 0), () -> gaveIn1(y));
            PoreField z = producer(20, 21, 0);
            z.tank(d[0]);
            Expect.due("of 20 and 21 into a tank of " + d[0], Expect.row(d[1], d[2], 0), () -> gaveIn1(z));
        }
        // Of 20 and 20 by whole ones: 20 * 2 / 40 is 1 already.
        PoreField y = producer(20, 20, 0);
        y.capacity(0, 0);
        Expect.due("of 20 and 20 with 0", "[0, 0, 0]", () -> gaveIn1(y));
        // Of 31 and 10: 2 * 10 * 2 / 41 is 0, and 2 * 10 * 3 / 41 is 1.
        PoreField z = producer(31, 0, 10);
        z.permit(0);
        Expect.due("of 31 and 10 without a permit", "[1, 0, 0]", () -> gaveIn1(z));
        // A single one of the gas: 2 * 1 * 24 / 50 is 0, and 2 * 1 * 25 / 50 is 1.
        for (int permit = 0; permit <= 1; permit++) {
            PoreField v = producer(49, 0, 1);
            v.permit(permit);
            Expect.due("of 49 and 1 with a permit of " + permit, permit == 0 ? "[23, 0, 0]" : "[39, 0, 1]",
                    () -> gaveIn1(v));
            PoreField w = producer(49, 0, 1);
            w.capacity(2, permit);
            Expect.due("of 49 and 1 with a capacity of " + permit, permit == 0 ? "[23, 0, 0]" : "[39, 0, 1]",
                    () -> gaveIn1(w));
        }
    }

    private static void whatIsLeftOfACapacity() {
        Expect.sentence("no more than is left of its CAPACITY in this MONTH");
        for (int f = 0; f < 3; f++) {
            // Of each fluid 8 come up from the first one: there is one too few for the second one, as many, one more.
            for (int more = 7; more <= 9; more++) {
                PoreField x = twoProducers(f);
                x.capacity(f, 8 + more);
                x.pass(1);
                int fluid = f;
                int due = Math.min(8, f == 2 ? more - more % 2 : more);
                Expect.due("the first one, of " + f, 8, () -> x.ofWell(0, 8 + fluid));
                Expect.due("the second one with " + more + " of " + f, due, () -> x.ofWell(1, 8 + fluid));
            }
            // In the next month it is all there again.
            PoreField y = twoProducers(f);
            y.capacity(f, 8);
            int fluid = f;
            for (int month = 0; month < 2; month++) {
                y.cell(0, 10, f == 0 ? 94 : 0, f == 1 ? 94 : 0, f == 2 ? 54 : 0);
                y.pass(1);
                Expect.due("the first one of " + f + " in the month " + month, 8, () -> y.ofWell(0, 8 + fluid));
                Expect.due("the second one of " + f + " in the month " + month, 0, () -> y.ofWell(1, 8 + fluid));
            }
        }
    }

    /** Each wants what brings 8 of the fluid: 1 * 890 / 100 times of 94, or of gas 1 * 490 / 100 times of 54. */
    private static PoreField twoProducers(int fluid) {
        int much = fluid == 2 ? 54 : 94;
        PoreField x = Fields.walled();
        for (int w = 0; w < 2; w++) {
            x.cell(w, 10, fluid == 0 ? much : 0, fluid == 1 ? much : 0, fluid == 2 ? much : 0);
            Fields.drill(x, 0, w, 1);
        }
        x.permit(99);
        return x;
    }

    private static void roomOfTheTank() {
        Expect.sentence("of OIL no more than the TANK has room");
        // Of 50 and 25 are wanted 63 times, which bring 42 and 21.
        int[][] due = {{0, 0, 0}, {1, 1, 0}, {3, 3, 1}, {4, 4, 2}, {5, 5, 2}, {41, 41, 20}, {42, 42, 21}, {43, 42, 21}};
        for (int[] d : due) {
            PoreField x = producer(50, 25, 0);
            x.capacity(0, 99);
            x.tank(d[0]);
            Expect.due("into a tank of " + d[0], Expect.row(d[1], d[2], 0), () -> gaveIn1(x));
            Expect.due("what it has", d[1], () -> x.many(8));
        }
        // By what the tank has by now: of two that want 8 each, one of a month ahead.
        for (int room = 7; room <= 9; room++) {
            PoreField x = twoProducers(0);
            x.tank(8 + room);
            x.pass(1);
            int second = Math.min(8, room);
            Expect.due("the second one into a room of " + room, second, () -> x.ofWell(1, 8));
            Expect.due("the month behind it", Math.max(0, room - 8), () -> x.pass(1));
            x.lift(0, 3);
            Expect.due("and behind a ship of 3", 3, () -> x.pass(1));
        }
        // Water and gas need no tank.
        PoreField y = producer(0, 20, 20);
        y.tank(0);
        Expect.due("water and gas without a tank", "[0, 5, 10]", () -> gaveIn1(y));
    }

    private static void permitAndInjectors() {
        Expect.sentence("of GAS no more than is left, in this MONTH, of the PERMIT and of what GAS INJECTORS can take, "
                + "together");
        // 50 of gas, of which 40 times are wanted: the permit, the choke of an injector (-1: none), what comes up.
        int[][] due = {
            {0, -1, 0}, {1, -1, 0}, {2, -1, 2}, {3, -1, 2}, {9, -1, 8}, {10, -1, 10}, {11, -1, 10}, {48, -1, 48},
            {49, -1, 48}, {50, -1, 50}, {51, -1, 50},
            {0, 0, 0}, {0, 1, 2}, {1, 1, 2}, {2, 1, 4}, {0, 9, 18}, {31, 9, 48}, {32, 9, 50}, {33, 9, 50}};
        for (int[] d : due) {
            PoreField x = producer(0, 0, 50);
            x.capacity(2, 99);
            x.permit(d[0]);
            if (d[1] >= 0) {
                Fields.drill(x, 2, 15, d[1]);
            }
            Expect.due("with the permit and the injector " + Expect.row(d[0], d[1]), Expect.row(0, 0, d[2]),
                    () -> gaveIn1(x));
            int put = Math.min(d[2], 2 * Math.max(0, d[1]));
            Expect.due("put back", put, () -> x.many(10));
            Expect.due("flared", d[2] - put, () -> x.many(9));
        }
    }

    private static void whatInjectorsCanTake() {
        Expect.sentence("(GAS INJECTORS that are not PLUGGED can take 2 for each of their CHOKES in this MONTH.)");
        PoreField x = producer(0, 0, 50);
        x.permit(0);
        Fields.drill(x, 2, 14, 3);
        Fields.drill(x, 2, 15, 2);
        Expect.due("with 6 and 4", "[0, 0, 10]", () -> gaveIn1(x));
        x.cell(0, 10, 0, 0, 50);
        x.plug(1);
        Expect.due("with 4", "[0, 0, 4]", () -> gaveIn1(x));
        x.cell(0, 10, 0, 0, 50);
        x.choke(2, 0);
        Expect.due("with 0", "[0, 0, 0]", () -> gaveIn1(x));
        x.choke(2, 1);
        x.plug(2);
        Expect.due("with none", "[0, 0, 0]", () -> gaveIn1(x));
        // A water injector takes no gas.
        Fields.drill(x, 1, 13, 9);
        Expect.due("with one for water", "[0, 0, 0]", () -> gaveIn1(x));
    }

    private static void whatIsLeftOfThePermit() {
        Expect.sentence("no more than is left, in this MONTH, of the PERMIT");
        // The first one brings 8; of gas that is left over for the second one there is too little, enough, and more.
        for (int more = 7; more <= 9; more++) {
            PoreField x = twoProducers(2);
            x.permit(2 + more);
            Fields.drill(x, 2, 15, 3);
            x.pass(1);
            int due = more == 7 ? 6 : 8;
            Expect.due("the first one", 8, () -> x.ofWell(0, 10));
            Expect.due("the second one with " + more, due, () -> x.ofWell(1, 10));
        }
        // In the next month it is all there again.
        PoreField y = twoProducers(2);
        y.permit(8);
        for (int month = 0; month < 2; month++) {
            y.cell(0, 10, 0, 0, 54);
            y.pass(1);
            Expect.due("the first one in the month " + month, 8, () -> y.ofWell(0, 10));
            Expect.due("the second one in the month " + month, 0, () -> y.ofWell(1, 10));
        }
    }
}
