/** Promise 14 (pass): a month's steps (1) to (6), most of them in cells with faults all around. */
final class MonthTest {
    public static void main(String[] args) {
        wrongMonths();
        wants();
        capacities();
        ranks();
        tankRoom();
        permit();
        gasPutBack();
        waterPutIn();
        evenOut();
        evenOutInOrder();
        allocateWithoutTests();
        allocateByTests();
        testOfAPluggedWell();
        entitled();
        roundedDown();
        counted();
        Expect.finish();
    }

    private static void wrongMonths() {
        PoreField x = new PoreField();
        Expect.argument("pass(0)", () -> x.pass(0));
        Expect.argument("pass(25)", () -> x.pass(25));
        Expect.argument("pass(-1)", () -> x.pass(-1));
        Expect.due("NOW behind these", 0, () -> x.many(0));
        Expect.due("pass(24)", 0, () -> x.pass(24));
        Expect.due("NOW", 24, () -> x.many(0));
        x.pass(1);
        Expect.due("NOW", 25, () -> x.many(0));
    }

    private static void wants() {
        // 2 * (500 - 50) / 100 times out of 50.
        PoreField x = Fields.oneProducer(10, 20, 20, 10, 2);
        Expect.due("pass(1)", 3, () -> x.pass(1));
        Expect.due("what it gave", "[3, 3, 3]", () -> Fields.gave(x, 0));
        Expect.due("what the cell has then", "[17, 17, 7]", () -> Fields.fluids(x, 0));
        Expect.due("many(8)", 3, () -> x.many(8));
        Expect.due("a pressure of 50 gives", 0, () -> Fields.oneProducer(40, 20, 0, 0, 9).pass(1));
        Expect.due("a pressure below 50 gives", 0, () -> Fields.oneProducer(90, 20, 0, 0, 9).pass(1));
        Expect.due("a pressure of 51 gives", 0, () -> Fields.oneProducer(90, 46, 0, 0, 9).pass(1));
        Expect.due("a pressure of 62 gives", 1, () -> Fields.oneProducer(50, 31, 0, 0, 9).pass(1));
        Expect.due("a pressure of 149 with a choke of 1 gives", 0, () -> Fields.oneProducer(51, 76, 0, 0, 1).pass(1));
        Expect.due("a pressure of 150 with a choke of 1 gives", 1, () -> Fields.oneProducer(50, 75, 0, 0, 1).pass(1));
        Expect.due("a choke of 0 gives", 0, () -> Fields.oneProducer(10, 99, 0, 0, 0).pass(1));
        // The gas that would go twice as fast is just 10: 20 * 40 / 50 is 16.
        PoreField y = Fields.oneProducer(10, 40, 0, 10, 9);
        Expect.due("pass(1)", 32, () -> y.pass(1));
        Expect.due("what it gave", "[32, 0, 10]", () -> Fields.gave(y, 0));
        // Two in a cell: the second one by the pressure that is left.
        PoreField z = Fields.oneProducer(10, 50, 0, 0, 2);
        Fields.drill(z, 0, 0, 2);
        Expect.due("pass(1)", 16, () -> z.pass(1));
        Expect.due("what the second gave", "[7, 0, 0]", () -> Fields.gave(z, 1));
        z.plug(0);
        z.pass(1);
        Expect.due("what the plugged one gave", "[0, 0, 0]", () -> Fields.gave(z, 0));
        // 2 * (340 - 50) / 100
        Expect.due("what the other one gave", "[5, 0, 0]", () -> Fields.gave(z, 1));
    }

    private static void capacities() {
        PoreField x = Fields.oneProducer(10, 99, 0, 0, 9);
        Expect.due("with the capacity of 40", 40, () -> x.pass(1));
        PoreField y = Fields.oneProducer(10, 50, 0, 0, 9);
        y.capacity(0, 7);
        Expect.due("with a capacity of 7", 7, () -> y.pass(1));
        Expect.due("with a capacity of 7, a month on", 7, () -> y.pass(1));
        y.capacity(0, 0);
        Expect.due("with a capacity of 0", 0, () -> y.pass(1));
        // 60 * 68 / 100 is 40, 60 * 69 / 100 is 41.
        PoreField z = Fields.oneProducer(10, 30, 60, 10, 9);
        Expect.due("with the capacity for water", 20, () -> z.pass(1));
        Expect.due("what it gave", "[20, 40, 10]", () -> Fields.gave(z, 0));
        // 2 * 20 * a / 60 is 5 at most up to a = 8.
        PoreField v = Fields.oneProducer(10, 40, 0, 20, 9);
        v.capacity(2, 5);
        Expect.due("with the capacity for gas", 5, () -> v.pass(1));
        Expect.due("what it gave", "[5, 0, 5]", () -> Fields.gave(v, 0));
        // 20 * 2 / 41 is 0 still, and 20 * 3 / 41 is 1; 21 * 2 / 41 is 1.
        PoreField u = Fields.oneProducer(10, 20, 21, 0, 9);
        u.capacity(0, 0);
        u.pass(1);
        Expect.due("what comes up without oil", "[0, 1, 0]", () -> Fields.gave(u, 0));
        // A fluid that is not there needs no capacity.
        PoreField w = Fields.oneProducer(10, 50, 0, 0, 1);
        w.capacity(1, 0);
        w.capacity(2, 0);
        w.permit(0);
        Expect.due("oil alone", 4, () -> w.pass(1));
    }

    private static PoreField twoWells() {
        PoreField x = Fields.oneProducer(10, 50, 0, 0, 9);
        x.cell(1, 10, 50, 0, 0);
        Fields.drill(x, 0, 1, 9);
        x.capacity(0, 50);
        return x;
    }

    private static void ranks() {
        PoreField x = twoWells();
        x.pass(1);
        Expect.due("of one rank: the first one", "[40, 0, 0]", () -> Fields.gave(x, 0));
        Expect.due("of one rank: the second one", "[10, 0, 0]", () -> Fields.gave(x, 1));
        PoreField y = twoWells();
        y.rank(1, 4);
        y.pass(1);
        Expect.due("the greater rank", "[10, 0, 0]", () -> Fields.gave(y, 0));
        Expect.due("the smaller rank", "[40, 0, 0]", () -> Fields.gave(y, 1));
        PoreField z = twoWells();
        z.rank(0, 9);
        z.rank(1, 8);
        z.pass(1);
        Expect.due("rank 9", "[10, 0, 0]", () -> Fields.gave(z, 0));
        z.rank(0, 1);
        z.rank(1, 2);
        z.capacity(0, 3);
        z.pass(1);
        Expect.due("rank 1", "[3, 0, 0]", () -> Fields.gave(z, 0));
        Expect.due("rank 2", "[0, 0, 0]", () -> Fields.gave(z, 1));
    }

    private static void tankRoom() {
        PoreField x = Fields.oneProducer(10, 50, 25, 0, 9);
        x.tank(4);
        // 50 * 7 / 75 is 4, 50 * 8 / 75 is 5; 25 * 7 / 75 is 2.
        Expect.due("into a tank of 4", 4, () -> x.pass(1));
        Expect.due("what it gave", "[4, 2, 0]", () -> Fields.gave(x, 0));
        // 46 * 1 / 69 is 0, and so is 23 * 1 / 69.
        Expect.due("into a full tank", 0, () -> x.pass(1));
        PoreField y = Fields.oneProducer(10, 0, 50, 0, 1);
        y.tank(0);
        y.pass(1);
        Expect.due("water needs no tank", "[0, 4, 0]", () -> Fields.gave(y, 0));
    }

    private static void permit() {
        PoreField x = Fields.oneProducer(10, 0, 0, 50, 9);
        x.pass(1);
        Expect.due("with the permit of 10", "[0, 0, 10]", () -> Fields.gave(x, 0));
        Expect.due("many(9)", 10, () -> x.many(9));
        Expect.due("many(12)", -10, () -> x.many(12));
        x.permit(1);
        x.pass(1);
        Expect.due("with a permit of 1", "[0, 0, 0]", () -> Fields.gave(x, 0));
        x.permit(3);
        x.pass(1);
        Expect.due("with a permit of 3", "[0, 0, 2]", () -> Fields.gave(x, 0));
        x.permit(0);
        x.pass(1);
        Expect.due("with a permit of 0", "[0, 0, 0]", () -> Fields.gave(x, 0));
        Expect.due("many(9)", 12, () -> x.many(9));
        // Permit and injectors together: 1 and 6.
        Fields.drill(x, 2, 5, 3);
        x.permit(1);
        x.pass(1);
        Expect.due("with an injector of 3", "[0, 0, 6]", () -> Fields.gave(x, 0));
        Expect.due("many(9)", 12, () -> x.many(9));
        Expect.due("many(10)", 6, () -> x.many(10));
        x.plug(1);
        x.pass(1);
        Expect.due("with a plugged injector", "[0, 0, 0]", () -> Fields.gave(x, 0));
        // What a first one brought up is not left for a second one: 10 in all.
        PoreField y = Fields.oneProducer(10, 0, 0, 50, 1);
        y.cell(1, 10, 0, 0, 50);
        Fields.drill(y, 0, 1, 1);
        y.pass(1);
        Expect.due("the first one", "[0, 0, 8]", () -> Fields.gave(y, 0));
        Expect.due("the second one", "[0, 0, 2]", () -> Fields.gave(y, 1));
    }

    private static void gasPutBack() {
        PoreField x = Fields.oneProducer(10, 0, 0, 50, 1);
        Fields.drill(x, 2, 5, 2);
        Fields.drill(x, 2, 6, 3);
        Fields.drill(x, 2, 7, 9);
        x.pass(1);
        Expect.due("the producer", "[0, 0, 8]", () -> Fields.gave(x, 0));
        Expect.due("the first injector", "[0, 0, 4]", () -> Fields.gave(x, 1));
        Expect.due("the second injector", "[0, 0, 4]", () -> Fields.gave(x, 2));
        Expect.due("the third injector", "[0, 0, 0]", () -> Fields.gave(x, 3));
        Expect.due("the cell of the first one", "[0, 0, 4]", () -> Fields.fluids(x, 5));
        Expect.due("many(9)", 0, () -> x.many(9));
        Expect.due("many(10)", 8, () -> x.many(10));
        // The permit stays where injectors take first, and the rest is flared.
        PoreField y = Fields.oneProducer(10, 0, 0, 50, 1);
        Fields.drill(y, 2, 0, 2);
        y.pass(1);
        Expect.due("the cell of both", "[0, 0, 46]", () -> Fields.fluids(y, 0));
        Expect.due("many(9)", 4, () -> y.many(9));
        Expect.due("many(10)", 4, () -> y.many(10));
        Expect.due("many(12)", -4, () -> y.many(12));
        // Gas of one month is not there in the next one.
        y.choke(0, 0);
        y.pass(1);
        Expect.due("the injector without gas", "[0, 0, 0]", () -> Fields.gave(y, 1));
        Expect.due("many(9)", 4, () -> y.many(9));
        Expect.due("many(10)", 4, () -> y.many(10));
        // An injector may be the first of the wells.
        PoreField z = Fields.walled();
        z.cell(0, 10, 0, 0, 50);
        Fields.drill(z, 2, 5, 1);
        Fields.drill(z, 0, 0, 1);
        z.pass(1);
        Expect.due("the injector ahead of the producer", "[0, 0, 2]", () -> Fields.gave(z, 0));
        Expect.due("many(9)", 6, () -> z.many(9));
    }

    private static void waterPutIn() {
        PoreField x = Fields.walled();
        x.cell(0, 10, 0, 19, 0);
        x.cell(1, 10, 0, 20, 0);
        Fields.drill(x, 1, 0, 9);
        Fields.drill(x, 1, 0, 9);
        Fields.drill(x, 1, 1, 9);
        Fields.drill(x, 1, 2, 0);
        Fields.drill(x, 1, 3, 3);
        x.pass(1);
        Expect.due("below 200", "[0, 18, 0]", () -> Fields.gave(x, 0));
        Expect.due("the second one in it", "[0, 0, 0]", () -> Fields.gave(x, 1));
        Expect.due("at 200", "[0, 0, 0]", () -> Fields.gave(x, 2));
        Expect.due("with a choke of 0", "[0, 0, 0]", () -> Fields.gave(x, 3));
        Expect.due("with a choke of 3", "[0, 6, 0]", () -> Fields.gave(x, 4));
        Expect.due("the cell", "[0, 37, 0]", () -> Fields.fluids(x, 0));
        Expect.due("many(11)", 24, () -> x.many(11));
        Expect.due("many(3)", 63, () -> x.many(3));
        x.plug(4);
        x.pass(1);
        Expect.due("plugged", "[0, 0, 0]", () -> Fields.gave(x, 4));
        Expect.due("many(11) stays", 24, () -> x.many(11));
        // By the pressure behind the gas that is put back, and behind what came up.
        PoreField y = Fields.oneProducer(10, 0, 0, 50, 1);
        y.cell(5, 10, 0, 19, 0);
        y.cell(6, 10, 0, 20, 0);
        Fields.drill(y, 1, 5, 1);
        Fields.drill(y, 2, 5, 1);
        Fields.drill(y, 0, 6, 1);
        Fields.drill(y, 1, 6, 1);
        y.pass(1);
        Expect.due("behind gas", "[0, 0, 0]", () -> Fields.gave(y, 1));
        Expect.due("the cell of both", "[0, 19, 2]", () -> Fields.fluids(y, 5));
        Expect.due("behind a producer", "[0, 2, 0]", () -> Fields.gave(y, 4));
        Expect.due("the cell of both", "[0, 21, 0]", () -> Fields.fluids(y, 6));
    }

    private static void evenOut() {
        PoreField x = Fields.walled();
        x.cell(0, 40, 40, 0, 0);
        x.pass(1);
        Expect.due("with a fault", "[40, 0, 0]", () -> Fields.fluids(x, 0));
        x.fault(0, true, false);
        x.pass(1);
        Expect.due("without it", "[35, 0, 0]", () -> Fields.fluids(x, 0));
        Expect.due("without it, to the east", "[5, 0, 0]", () -> Fields.fluids(x, 1));
        Expect.due("to the south", "[0, 0, 0]", () -> Fields.fluids(x, 4));
        // All gas goes, as it goes twice as fast.
        x.cell(0, 10, 10, 20, 10);
        x.cell(1, 10, 0, 0, 0);
        x.pass(1);
        Expect.due("what stays", "[5, 10, 0]", () -> Fields.fluids(x, 0));
        Expect.due("what goes", "[5, 10, 10]", () -> Fields.fluids(x, 1));
        // 250 is greater than 150 then: to the west.
        x.pass(1);
        Expect.due("what is there", "[6, 12, 4]", () -> Fields.fluids(x, 0));
        Expect.due("what is there", "[4, 8, 6]", () -> Fields.fluids(x, 1));
        x.cell(0, 10, 2, 0, 0);
        x.cell(1, 10, 0, 0, 0);
        x.pass(1);
        Expect.due("a difference of 20", "[1, 0, 0]", () -> Fields.fluids(x, 0));
        x.cell(0, 90, 17, 0, 0);
        x.cell(1, 10, 0, 0, 0);
        x.pass(1);
        Expect.due("a difference of 18", "[17, 0, 0]", () -> Fields.fluids(x, 0));
        x.fault(0, true, true);
        x.fault(0, false, false);
        x.cell(0, 10, 0, 0, 0);
        x.cell(4, 10, 0, 8, 0);
        x.pass(1);
        Expect.due("to the north", "[0, 4, 0]", () -> Fields.fluids(x, 0));
        Expect.due("from the south", "[0, 4, 0]", () -> Fields.fluids(x, 4));
        // Nothing goes from the end of a row to the start of the next one.
        PoreField y = new PoreField();
        y.fault(3, false, true);
        y.fault(2, true, true);
        y.cell(3, 10, 99, 0, 0);
        y.pass(1);
        Expect.due("the end of a row", "[99, 0, 0]", () -> Fields.fluids(y, 3));
    }

    private static void evenOutInOrder() {
        PoreField x = Fields.walled();
        for (int c = 0; c < 16; c++) {
            x.cell(c, 10, c == 0 ? 40 : 0, 0, 0);
        }
        x.fault(0, true, false);
        x.fault(0, false, false);
        x.fault(1, true, false);
        x.pass(1);
        Expect.due("cell 0", "[10, 0, 0]", () -> Fields.fluids(x, 0));
        Expect.due("cell 1: 20 from 0, 10 to 2", "[10, 0, 0]", () -> Fields.fluids(x, 1));
        Expect.due("cell 2", "[10, 0, 0]", () -> Fields.fluids(x, 2));
        Expect.due("cell 4: by what 0 has behind the east", "[10, 0, 0]", () -> Fields.fluids(x, 4));
        Expect.due("many(2)", 40, () -> x.many(2));
        // Behind what is put in, and the month's answers are told by then.
        PoreField y = Fields.walled();
        y.fault(0, true, false);
        Fields.drill(y, 1, 0, 8);
        y.pass(1);
        Expect.due("cell 0 behind an injector", "[0, 14, 0]", () -> Fields.fluids(y, 0));
        Expect.due("cell 1 beside it", "[0, 2, 0]", () -> Fields.fluids(y, 1));
    }

    private static void allocateWithoutTests() {
        PoreField x = Fields.oneProducer(10, 50, 0, 0, 1);
        x.cell(1, 10, 0, 50, 0);
        Fields.drill(x, 0, 1, 1);
        Fields.drill(x, 0, 2, 9);
        x.cell(3, 10, 10, 0, 0);
        Fields.drill(x, 1, 3, 9);
        Expect.due("pass(1)", 4, () -> x.pass(1));
        Expect.due("allocated to the one with oil", 2, () -> x.ofWell(0, 12));
        Expect.due("allocated to the one with water", 2, () -> x.ofWell(1, 12));
        Expect.due("allocated to the one without anything", 0, () -> x.ofWell(2, 12));
        Expect.due("allocated to the injector", 0, () -> x.ofWell(3, 12));
        Expect.due("oil by truth", 4, () -> x.ofWell(0, 11));
        Expect.due("oil by truth", 0, () -> x.ofWell(1, 11));
        // It moves once, but rounded down it gives nothing.
        PoreField y = Fields.oneProducer(15, 1, 1, 1, 1);
        y.cell(1, 10, 50, 0, 0);
        Fields.drill(y, 0, 1, 1);
        Expect.due("pass(1)", 4, () -> y.pass(1));
        Expect.due("what the first gave", "[0, 0, 0]", () -> Fields.gave(y, 0));
        Expect.due("allocated to it", 0, () -> y.ofWell(0, 12));
        Expect.due("allocated to the second one", 4, () -> y.ofWell(1, 12));
        // An odd one goes to the one with the smaller number, whatever the ranks.
        PoreField z = Fields.oneProducer(10, 50, 0, 0, 2);
        z.cell(1, 10, 0, 0, 50);
        Fields.drill(z, 0, 1, 1);
        z.rank(0, 9);
        Expect.due("pass(1)", 9, () -> z.pass(1));
        Expect.due("allocated to the first one", 5, () -> z.ofWell(0, 12));
        Expect.due("allocated to the one with gas", 4, () -> z.ofWell(1, 12));
    }

    private static void allocateByTests() {
        PoreField x = Fields.oneProducer(10, 50, 0, 0, 2);
        x.cell(1, 10, 50, 0, 0);
        Fields.drill(x, 0, 1, 1);
        x.test(0);
        x.test(1);
        Expect.due("pass(1)", 13, () -> x.pass(1));
        Expect.due("allocated before the tests are known", "[7, 6]", () -> Fields.allocated(x));
        Expect.due("the first test", "[9, 0, 0]", () -> Fields.tested(x, 0));
        Expect.due("the second test", "[4, 0, 0]", () -> Fields.tested(x, 1));
        Expect.due("to be tested again", 0, () -> x.ofWell(0, 13));
        // 11 * 9 / 13 is 7, 11 * 4 / 13 is 3, and one is left.
        Expect.due("pass(1)", 11, () -> x.pass(1));
        Expect.due("allocated by tests", "[15, 9]", () -> Fields.allocated(x));
        Expect.due("the first test still", "[9, 0, 0]", () -> Fields.tested(x, 0));
        Expect.due("oil by truth", 16, () -> x.ofWell(0, 11));
        Expect.due("oil by truth", 8, () -> x.ofWell(1, 11));
        // Only the tests of those that gave something count.
        x.plug(0);
        Expect.due("pass(1)", 3, () -> x.pass(1));
        Expect.due("allocated to the other one", "[15, 12]", () -> Fields.allocated(x));
        // One without a test gets just of what is left over.
        x.cell(2, 10, 50, 0, 0);
        Fields.drill(x, 0, 2, 1);
        Expect.due("pass(1)", 7, () -> x.pass(1));
        Expect.due("allocated", "[15, 19, 0]", () -> Fields.allocated(x));
        // A test of a single one counts as well, and so does a well that gave a single one.
        PoreField y = Fields.oneProducer(10, 50, 0, 0, 1);
        y.cell(1, 50, 31, 0, 0);
        Fields.drill(y, 0, 1, 9);
        y.test(1);
        Expect.due("pass(1)", 5, () -> y.pass(1));
        Expect.due("allocated without tests", "[3, 2]", () -> Fields.allocated(y));
        y.cell(1, 50, 31, 0, 0);
        Expect.due("pass(1)", 5, () -> y.pass(1));
        Expect.due("allocated by the only test", "[3, 7]", () -> Fields.allocated(y));
        // In months that go by in one call just the first one is the test.
        x.test(2);
        x.pass(3);
        Expect.due("the test of the first of three", "[4, 0, 0]", () -> Fields.tested(x, 2));
        Expect.due("what the latest one gave", "[3, 0, 0]", () -> Fields.gave(x, 2));
    }

    private static void testOfAPluggedWell() {
        PoreField x = Fields.oneProducer(10, 20, 20, 10, 2);
        x.test(0);
        x.pass(1);
        Expect.due("the test", "[3, 3, 3]", () -> Fields.tested(x, 0));
        x.test(0);
        x.plug(0);
        Expect.due("the test behind the plug", "[3, 3, 3]", () -> Fields.tested(x, 0));
        Expect.due("what it gave behind the plug", "[3, 3, 3]", () -> Fields.gave(x, 0));
        x.pass(1);
        Expect.due("the test of a plugged one", "[0, 0, 0]", () -> Fields.tested(x, 0));
        Expect.due("to be tested", 0, () -> x.ofWell(0, 13));
    }

    private static void entitled() {
        PoreField x = Fields.oneProducer(10, 50, 0, 0, 2);
        x.pass(1);
        Expect.due("partner 0 at first", 9, () -> x.ofPartner(0, 1));
        x.shares(33, 33);
        // 7 each time 33 is 2, 7 times 34 is 2; 1 is left.
        Expect.due("pass(1)", 7, () -> x.pass(1));
        Expect.due("partner 0", 12, () -> x.ofPartner(0, 1));
        Expect.due("partner 1", 2, () -> x.ofPartner(1, 1));
        Expect.due("partner 2", 2, () -> x.ofPartner(2, 1));
        x.shares(0, 50);
        // 2 * (340 - 50) / 100 is 5: 2, 2 and what is left over to one without a share.
        Expect.due("pass(1)", 5, () -> x.pass(1));
        Expect.due("partner 0", 13, () -> x.ofPartner(0, 1));
        Expect.due("partner 1", 4, () -> x.ofPartner(1, 1));
        Expect.due("partner 2", 4, () -> x.ofPartner(2, 1));
    }

    private static void roundedDown() {
        PoreField x = Fields.oneProducer(10, 50, 0, 0, 2);
        x.shares(1, 99);
        // 9 * 99 / 100 is 8.
        Expect.due("pass(1)", 9, () -> x.pass(1));
        Expect.due("partner 0", 1, () -> x.ofPartner(0, 1));
        Expect.due("partner 1", 8, () -> x.ofPartner(1, 1));
    }

    private static void counted() {
        PoreField x = Fields.oneProducer(10, 30, 30, 10, 2);
        PoreField twin = Fields.oneProducer(10, 30, 30, 10, 2);
        int oil = 0;
        int water = 0;
        int gas = 0;
        for (int m = 0; m < 5; m++) {
            oil += x.pass(1);
            water += x.ofWell(0, 9);
            gas += x.ofWell(0, 10);
        }
        int sum = oil;
        Expect.due("five months at once", sum, () -> twin.pass(5));
        Expect.due("as one by one", Fields.many(x), () -> Fields.many(twin));
        Expect.due("that came up ever", Expect.row(oil, water, gas),
                () -> Expect.row(x.many(5), x.many(6), x.many(7)));
        Expect.due("that stays", Expect.row(30 - oil, 30 - water, 10 - gas),
                () -> Expect.row(x.many(2), x.many(3), x.many(4)));
        Expect.due("ofWell(0, 11)", sum, () -> x.ofWell(0, 11));
        Expect.argument("many(-1)", () -> x.many(-1));
        Expect.argument("many(15)", () -> x.many(15));
    }
}
