/** The sentences of a month's steps (5) and (6) that tell what is left over or rounded down, on its edges. */
final class MeasureEdgesTest {
    public static void main(String[] args) {
        onlyThoseThatGaveSomething();
        whatMovedButGaveNothing();
        roundByRound();
        testsWithoutOil();
        byTests();
        testsOfThoseThatGaveNothing();
        leftOverBehindTests();
        testsComeBehindThat();
        testsWithEveryFluid();
        entitledRoundedDown();
        leftOverToThePartner0();
        monthByMonth();
        Expect.finish();
    }

    /** A producer for each of these, in cells on their own, which gives so much oil in the next month. */
    private static PoreField giving(int... much) {
        PoreField x = Fields.walled();
        for (int w = 0; w < much.length; w++) {
            x.well(0, w);
        }
        give(x, much);
        return x;
    }

    /** So much oil each in the next month: 10 times that and 5 are there, of which 1 * (100 * much) / 100 move. */
    private static void give(PoreField x, int... much) {
        for (int w = 0; w < much.length; w++) {
            x.cell(w, 10, 10 * much[w] + 5, 0, 0);
            if (x.ofWell(w, 4) == 0) {
                x.choke(w, much[w] > 0 ? 1 : 0);
            }
        }
    }

    /** The well gives no oil in the next month: of 9 of water or gas 9 * 40 / 100 times, which are 3 or 6. */
    private static void giveNoOil(PoreField x, int well, int water, int gas) {
        x.cell(well, 10, 0, water, gas);
        x.choke(well, 9);
    }

    /** Tests the wells in a month in which they give so much, and tells what is allocated to them then. */
    private static String tested(PoreField x, int... much) {
        give(x, much);
        for (int w = 0; w < much.length; w++) {
            x.test(w);
        }
        x.pass(1);
        return Fields.allocated(x);
    }

    private static void onlyThoseThatGaveSomething() {
        Expect.sentence("It is ALLOCATED to the PRODUCERS that GAVE something of any FLUID in it");
        // The second one gives oil, water, gas, or nothing.
        for (int fluid = 0; fluid <= 3; fluid++) {
            PoreField x = giving(4, 1);
            x.cell(1, 10, fluid == 0 ? 9 : 0, fluid == 1 ? 9 : 0, fluid == 2 ? 9 : 0);
            x.choke(1, 9);
            int f = fluid;
            int oil = fluid == 0 ? 7 : 4;
            Expect.due("pass(1)", oil, () -> x.pass(1));
            Expect.due("what the second one gave", fluid == 0 ? "[3, 0, 0]" : fluid == 1 ? "[0, 3, 0]"
                    : fluid == 2 ? "[0, 0, 6]" : "[0, 0, 0]", () -> Fields.gave(x, 1));
            Expect.due("allocated, the second one with fluid " + f,
                    fluid == 0 ? "[4, 3]" : fluid == 3 ? "[4, 0]" : "[2, 2]", () -> Fields.allocated(x));
        }
        // Injectors that put something in get nothing.
        PoreField y = giving(5);
        Fields.drill(y, 1, 9, 9);
        Fields.drill(y, 2, 10, 9);
        y.cell(1, 10, 0, 0, 40);
        Fields.drill(y, 0, 1, 1);
        Expect.due("pass(1)", 5, () -> y.pass(1));
        Expect.due("the water injector", 18, () -> y.ofWell(1, 9));
        Expect.due("the gas injector", 6, () -> y.ofWell(2, 10));
        Expect.due("allocated", "[3, 0, 0, 2]", () -> Fields.allocated(y));
        // One that is plugged, or without a choke, or without a pressure above 50.
        PoreField z = giving(3, 3, 3);
        z.plug(0);
        z.choke(1, 0);
        z.cell(2, 10, 5, 0, 0);
        z.well(0, 3);
        z.cell(3, 10, 35, 0, 0);
        z.choke(3, 1);
        Expect.due("pass(1)", 3, () -> z.pass(1));
        Expect.due("allocated", "[0, 0, 0, 3]", () -> Fields.allocated(z));
    }

    private static void whatMovedButGaveNothing() {
        Expect.sentence("that GAVE something of any FLUID in it");
        // Each moves once of nine, by 3 * 40 / 100: 3 * 1 / 9 is 0, and so is 2 * 4 * 1 / 9, but 2 * 5 * 1 / 9 is 1.
        int[][] due = {{3, 3, 3, 0}, {0, 0, 9, 1}, {9, 0, 0, 1}, {0, 9, 0, 1}, {8, 1, 0, 0}, {1, 8, 0, 0}, {2, 3, 4, 0},
            {2, 2, 5, 1}};
        for (int[] d : due) {
            PoreField x = giving(2);
            x.cell(1, 10, d[0], d[1], d[2]);
            Fields.drill(x, 0, 1, 3);
            x.pass(1);
            Expect.due("the second one gave something of " + Expect.row(d), d[3] == 1,
                    () -> x.ofWell(1, 8) + x.ofWell(1, 9) + x.ofWell(1, 10) > 0);
            Expect.due("allocated to the second one of " + Expect.row(d), d[3], () -> x.ofWell(1, 12));
        }
    }

    private static void roundByRound() {
        Expect.sentence("what is left over goes one by one to them by numbers, round by round; if the TESTS have no "
                + "OIL at all, all of it goes so");
        int[][] due = {{1, 1, 0, 0}, {2, 1, 1, 0}, {3, 1, 1, 1}, {4, 2, 1, 1}, {5, 2, 2, 1}, {6, 2, 2, 2},
            {7, 3, 2, 2}};
        for (int[] d : due) {
            PoreField x = giving(1, 1, 9);
            giveNoOil(x, 0, 9, 0);
            giveNoOil(x, 1, 0, 9);
            x.capacity(0, d[0]);
            Expect.due("pass(1)", d[0], () -> x.pass(1));
            Expect.due("allocated of " + d[0], Expect.row(d[1], d[2], d[3]), () -> Fields.allocated(x));
        }
        // By numbers, and not by ranks.
        PoreField y = giving(1, 1, 9);
        giveNoOil(y, 0, 9, 0);
        giveNoOil(y, 1, 0, 9);
        y.rank(2, 1);
        y.rank(0, 9);
        y.capacity(0, 4);
        y.pass(1);
        Expect.due("allocated of 4, the last one first by its rank", "[2, 1, 1]", () -> Fields.allocated(y));
        // A month without oil has nothing to allocate.
        PoreField z = giving(1, 1);
        giveNoOil(z, 0, 9, 0);
        giveNoOil(z, 1, 0, 9);
        Expect.due("pass(1) without oil", 0, () -> z.pass(1));
        Expect.due("allocated of 0", "[0, 0]", () -> Fields.allocated(z));
    }

    private static void testsWithoutOil() {
        Expect.sentence("if the TESTS have no OIL at all, all of it goes so");
        // Tests there are, but of water and gas.
        PoreField x = giving(1, 1);
        giveNoOil(x, 0, 9, 0);
        giveNoOil(x, 1, 0, 9);
        x.test(0);
        x.test(1);
        x.pass(1);
        Expect.due("the first test", "[0, 3, 0]", () -> Fields.tested(x, 0));
        Expect.due("the second test", "[0, 0, 6]", () -> Fields.tested(x, 1));
        give(x, 3, 6);
        Expect.due("pass(1)", 9, () -> x.pass(1));
        Expect.due("allocated", "[5, 4]", () -> Fields.allocated(x));
        // With one oil in one of the tests it goes by tests.
        PoreField y = giving(1, 1);
        giveNoOil(y, 0, 9, 0);
        y.test(0);
        y.test(1);
        y.pass(1);
        Expect.due("allocated until then", "[1, 0]", () -> Fields.allocated(y));
        Expect.due("the second test", "[1, 0, 0]", () -> Fields.tested(y, 1));
        give(y, 3, 6);
        Expect.due("pass(1)", 9, () -> y.pass(1));
        Expect.due("allocated", "[1, 9]", () -> Fields.allocated(y));
    }

    private static void byTests() {
        Expect.sentence("each gets the sum, times the OIL of its TEST, divided by the OIL of the TESTS of all "
                + "of these");
        // Tests of 3 and 6, and sums: by tests, rounded down, and one left over for the first one.
        int[][] due = {{1, 1, 0}, {2, 1, 1}, {3, 1, 2}, {4, 2, 2}, {5, 2, 3}, {6, 2, 4}, {8, 3, 5}, {9, 3, 6},
            {10, 4, 6}};
        for (int[] d : due) {
            PoreField x = giving(3, 6);
            Expect.due("allocated without tests", "[5, 4]", () -> tested(x, 3, 6));
            give(x, 9, 0);
            // The second one gives water, so that it is among those that gave something.
            giveNoOil(x, 1, 9, 0);
            x.capacity(0, d[0]);
            x.choke(0, 9);
            Expect.due("pass(1)", d[0], () -> x.pass(1));
            Expect.due("allocated of " + d[0], Expect.row(5 + d[1], 4 + d[2]), () -> Fields.allocated(x));
        }
    }

    private static void testsOfThoseThatGaveNothing() {
        Expect.sentence("divided by the OIL of the TESTS of all of these");
        PoreField x = giving(3, 6, 1);
        Expect.due("allocated without tests", "[4, 3, 3]", () -> tested(x, 3, 6, 1));
        // The second one gives nothing: its test does not count.
        give(x, 6, 0, 2);
        Expect.due("pass(1)", 8, () -> x.pass(1));
        Expect.due("allocated", "[10, 3, 5]", () -> Fields.allocated(x));
        // The first one has a choke, but no pressure above 50: its test does not count either.
        x.cell(0, 10, 5, 0, 0);
        x.choke(0, 9);
        x.cell(1, 10, 0, 9, 0);
        x.choke(1, 9);
        x.cell(2, 10, 65, 0, 0);
        Expect.due("pass(1)", 6, () -> x.pass(1));
        // 6 * 6 / 7 is 5, 6 * 1 / 7 is 0, and one is left over.
        Expect.due("allocated", "[10, 9, 5]", () -> Fields.allocated(x));
        // Just one gives something: all is its own.
        give(x, 0, 7, 0);
        Expect.due("pass(1)", 7, () -> x.pass(1));
        Expect.due("allocated", "[10, 16, 5]", () -> Fields.allocated(x));
        // Those with oil in their tests give nothing: the rest has no oil in tests at all.
        Fields.drill(x, 0, 3, 0);
        Fields.drill(x, 0, 4, 0);
        give(x, 0, 0, 0, 2, 3);
        Expect.due("pass(1)", 5, () -> x.pass(1));
        Expect.due("allocated", "[10, 16, 5, 3, 2]", () -> Fields.allocated(x));
    }

    private static void leftOverBehindTests() {
        Expect.sentence("what is left over goes one by one to them by numbers");
        // Tests of 1, 1 and 1: of 5 each gets 1, and two are left over; the one without a test is the first one.
        PoreField x = giving(0, 1, 1, 1);
        x.pass(1);
        Expect.due("allocated of 3", "[0, 1, 1, 1]", () -> Fields.allocated(x));
        Expect.due("allocated of 3 once more", "[0, 2, 2, 2]", () -> tested(x, 0, 1, 1, 1));
        give(x, 1, 2, 1, 1);
        Expect.due("pass(1)", 5, () -> x.pass(1));
        Expect.due("one for the one without a test, one for the next one", "[1, 4, 3, 3]", () -> Fields.allocated(x));
        // 6 leaves nothing over, 7 leaves one.
        give(x, 1, 2, 2, 1);
        x.pass(1);
        Expect.due("allocated of 6", "[1, 6, 5, 5]", () -> Fields.allocated(x));
        give(x, 1, 2, 2, 2);
        x.pass(1);
        Expect.due("allocated of 7", "[2, 8, 7, 7]", () -> Fields.allocated(x));
        // One that gave nothing gets nothing of what is left over.
        give(x, 0, 2, 2, 1);
        x.pass(1);
        Expect.due("allocated of 5, without the first one", "[2, 10, 9, 8]", () -> Fields.allocated(x));
    }

    private static void testsComeBehindThat() {
        Expect.sentence("have what they GAVE in this MONTH as their TEST, behind that");
        PoreField x = giving(1, 3);
        // Not by what they give in this very month.
        Expect.due("allocated in the month of the first tests", "[2, 2]", () -> tested(x, 1, 3));
        // By the tests of the month ahead, not by those of this one: 4 * 1 / 4 and 4 * 3 / 4.
        Expect.due("allocated in the month of the next tests", "[3, 5]", () -> tested(x, 3, 1));
        Expect.due("the first test", "[3, 0, 0]", () -> Fields.tested(x, 0));
        Expect.due("the second test", "[1, 0, 0]", () -> Fields.tested(x, 1));
        give(x, 2, 2);
        x.pass(1);
        Expect.due("allocated a month on", "[6, 6]", () -> Fields.allocated(x));
        // Just the first of several months is one that they are tested in.
        give(x, 5, 0);
        x.test(0);
        x.pass(2);
        Expect.due("the test of the first of two months", "[5, 0, 0]", () -> Fields.tested(x, 0));
        Expect.due("the other one stays", "[1, 0, 0]", () -> Fields.tested(x, 1));
    }

    private static void testsWithEveryFluid() {
        Expect.sentence("what it gave of the three FLUIDS in the latest MONTH that it was TESTED in");
        PoreField x = Fields.oneProducer(10, 20, 40, 20, 2);
        x.test(0);
        x.pass(1);
        // 2 * 750 / 100 of 80: 20 * 15 / 80 is 3, 40 * 15 / 80 is 7, 2 * 20 * 15 / 80 is 7.
        Expect.due("its test", "[3, 7, 7]", () -> Fields.tested(x, 0));
        // One that is plugged gave nothing in the month that it is tested in.
        x.test(0);
        x.plug(0);
        x.pass(1);
        Expect.due("its test behind the plug", "[0, 0, 0]", () -> Fields.tested(x, 0));
    }

    private static PoreField oilOf(int much) {
        PoreField x = Fields.oneProducer(10, 99, 0, 0, 9);
        x.capacity(0, much);
        return x;
    }

    private static void entitledRoundedDown() {
        Expect.sentence("each is ENTITLED to as much more as the OIL of this MONTH times its SHARE, divided by 100");
        // The oil, the first two shares, and what each gets: on a whole one, right below it, and right above it.
        int[][] due = {
            {50, 50, 50, 25, 25, 0}, {10, 10, 20, 1, 2, 7}, {10, 0, 9, 1, 0, 9}, {10, 0, 10, 0, 1, 9},
            {10, 0, 11, 1, 1, 8}, {10, 0, 19, 1, 1, 8}, {10, 0, 20, 0, 2, 8},
            {1, 0, 99, 1, 0, 0}, {1, 0, 100, 0, 1, 0}, {1, 0, 0, 0, 0, 1}, {1, 99, 1, 1, 0, 0},
            {84, 1, 98, 2, 82, 0}, {84, 0, 100, 0, 84, 0}, {0, 40, 30, 0, 0, 0}};
        for (int[] d : due) {
            PoreField x = oilOf(d[0]);
            x.shares(d[1], d[2]);
            Expect.due("pass(1)", d[0], () -> x.pass(1));
            Expect.due("entitled of " + Expect.row(d), Expect.row(d[3], d[4], d[5]), () -> Fields.entitled(x));
        }
    }

    private static void leftOverToThePartner0() {
        Expect.sentence("what is left over the PARTNER 0 gets");
        // Nothing is left over, one is, two are; also if it has no share.
        int[][] due = {{1, 33, 33, 1, 0, 0}, {2, 33, 33, 2, 0, 0}, {3, 33, 33, 2, 0, 1}, {4, 33, 33, 2, 1, 1},
            {20, 35, 35, 7, 7, 6}, {5, 0, 50, 1, 2, 2}, {4, 0, 50, 0, 2, 2}, {7, 1, 49, 1, 3, 3}};
        for (int[] d : due) {
            PoreField x = oilOf(d[0]);
            x.shares(d[1], d[2]);
            x.pass(1);
            Expect.due("entitled of " + Expect.row(d), Expect.row(d[3], d[4], d[5]), () -> Fields.entitled(x));
        }
    }

    private static void monthByMonth() {
        Expect.sentence("the OIL of this MONTH times its SHARE, divided by 100");
        // 1 in each of ten months is rounded down ten times.
        PoreField x = oilOf(1);
        x.shares(50, 50);
        Expect.due("pass(10)", 10, () -> x.pass(10));
        Expect.due("entitled", "[10, 0, 0]", () -> Fields.entitled(x));
        x.capacity(0, 10);
        Expect.due("pass(1)", 10, () -> x.pass(1));
        Expect.due("entitled", "[15, 5, 0]", () -> Fields.entitled(x));
        // A month without oil entitles to nothing.
        x.capacity(0, 0);
        x.pass(24);
        Expect.due("entitled", "[15, 5, 0]", () -> Fields.entitled(x));
    }
}
