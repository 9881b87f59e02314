/** Promises 23 (wouldGive), 24 (bestChoke) and 25 (keptBack): what would be, and that nothing is changed by it. */
final class WouldBeTest {
    public static void main(String[] args) {
        wouldGive();
        bestChoke();
        bestChokeOfInjectors();
        wrongChokes();
        keptBack();
        wrongKeptBack();
        nothingIsChanged();
        Expect.finish();
    }

    private static void wouldGive() {
        PoreField x = Fields.open();
        Expect.argument("wouldGive(0)", () -> x.wouldGive(0));
        Expect.argument("wouldGive(13)", () -> x.wouldGive(13));
        Expect.argument("wouldGive(-1)", () -> x.wouldGive(-1));
        for (int m = 1; m <= 12; m++) {
            int months = m;
            Expect.due("wouldGive(" + m + ")", Fields.open().pass(m), () -> x.wouldGive(months));
        }
        x.tank(3);
        Expect.due("wouldGive(12) into a tank of 3", 3, () -> x.wouldGive(12));
        x.pass(12);
        Expect.due("wouldGive(12) into a full tank", 0, () -> x.wouldGive(12));
        x.lift(0, 2);
        Expect.due("wouldGive(12) into the tank's room", 2, () -> x.wouldGive(12));
        Expect.due("wouldGive(12) without wells", 0, () -> new PoreField().wouldGive(12));
    }

    private static void bestChoke() {
        PoreField x = Fields.walled();
        x.cell(0, 10, 50, 0, 0);
        Fields.drill(x, 0, 0, 3);
        Expect.due("bestChoke(0, 1)", 9, () -> x.bestChoke(0, 1));
        x.capacity(0, 20);
        // 5 times 450 / 100 is above 20, 4 times is not.
        Expect.due("bestChoke(0, 1): the smallest of several", 5, () -> x.bestChoke(0, 1));
        Expect.due("its choke", 3, () -> x.ofWell(0, 2));
        x.capacity(0, 0);
        Expect.due("bestChoke(0, 6) without capacity", 0, () -> x.bestChoke(0, 6));
        x.capacity(0, 40);
        x.tank(4);
        Expect.due("bestChoke(0, 1) with a tank of 4", 1, () -> x.bestChoke(0, 1));
        // Of all wells: this one had better leave the capacity for water to the other one.
        PoreField y = Fields.walled();
        y.cell(0, 10, 0, 90, 0);
        y.cell(1, 10, 40, 40, 0);
        Fields.drill(y, 0, 0, 9);
        Fields.drill(y, 0, 1, 9);
        y.capacity(1, 30);
        Expect.due("bestChoke(0, 1) of a well with water", 0, () -> y.bestChoke(0, 1));
        // The first one takes all the capacity for water, so that no choke of the second one gives oil.
        Expect.due("bestChoke(1, 1) as the other one stays", 0, () -> y.bestChoke(1, 1));
        y.choke(0, 0);
        // 8 * 750 / 100 is 60 times, which is 30 of each; 9 gives no more, for the water.
        Expect.due("bestChoke(1, 1) with the other one shut", 8, () -> y.bestChoke(1, 1));
    }

    private static void bestChokeOfInjectors() {
        PoreField x = Fields.walled();
        x.cell(0, 40, 30, 0, 0);
        Fields.drill(x, 0, 0, 4);
        Fields.drill(x, 1, 0, 0);
        // 12 of water make a pressure of 102 for the next month: 2 times, and 29 * 2 / 41 is 1.
        Expect.due("bestChoke(1, 1)", 0, () -> x.bestChoke(1, 1));
        Expect.due("bestChoke(1, 2)", 6, () -> x.bestChoke(1, 2));
        // A gas injector takes what the permit does not.
        PoreField y = Fields.walled();
        y.cell(0, 10, 30, 0, 30);
        y.permit(0);
        Fields.drill(y, 0, 0, 2);
        Fields.drill(y, 2, 15, 0);
        // The 2 * 550 / 100 times bring 5 of oil and 11 of gas; 10 times bring 5 as well.
        Expect.due("bestChoke(1, 1): the smallest one that takes 10", 5, () -> y.bestChoke(1, 1));
    }

    private static void wrongChokes() {
        PoreField x = Fields.open();
        Expect.bounds("bestChoke(4, 0)", () -> x.bestChoke(4, 0));
        Expect.bounds("bestChoke(-1, 1)", () -> x.bestChoke(-1, 1));
        Expect.argument("bestChoke(0, 0)", () -> x.bestChoke(0, 0));
        Expect.argument("bestChoke(0, 7)", () -> x.bestChoke(0, 7));
        x.plug(0);
        Expect.state("bestChoke(0, 6) of a plugged one", () -> x.bestChoke(0, 6));
        Expect.argument("bestChoke(0, 7) of a plugged one", () -> x.bestChoke(0, 7));
    }

    private static void keptBack() {
        PoreField x = Fields.walled();
        x.cell(0, 10, 10, 0, 0);
        x.cell(1, 10, 90, 0, 0);
        Fields.drill(x, 0, 0, 2);
        // With the fault 1 and then nothing; without it 1, then 40 come over, and 2 * (490 - 50) / 100 is 8.
        Expect.due("keptBack(0, true, 1)", 0, () -> x.keptBack(0, true, 1));
        Expect.due("keptBack(0, true, 2)", 8, () -> x.keptBack(0, true, 2));
        Expect.due("keptBack(0, false, 2)", 0, () -> x.keptBack(0, false, 2));
        x.cell(0, 10, 90, 0, 0);
        x.cell(1, 10, 0, 0, 0);
        // With the fault 17 and 13; without it 17, then 36 go over, and 2 * (370 - 50) / 100 is 6.
        Expect.due("keptBack(0, true, 2) is below 0", -7, () -> x.keptBack(0, true, 2));
        x.fault(0, true, false);
        Expect.due("keptBack(0, true, 6) without a fault", 0, () -> x.keptBack(0, true, 6));
        x.fault(0, true, true);
        x.cell(4, 10, 90, 0, 0);
        x.cell(0, 10, 10, 0, 0);
        Expect.due("keptBack(0, false, 2)", 8, () -> x.keptBack(0, false, 2));
        x.tank(4);
        Expect.due("keptBack(0, false, 2) with a tank of 4", 3, () -> x.keptBack(0, false, 2));
        Expect.due("many(13)", 24, () -> x.many(13));
    }

    private static void wrongKeptBack() {
        PoreField x = new PoreField();
        Expect.bounds("keptBack(3, true, 0)", () -> x.keptBack(3, true, 0));
        Expect.bounds("keptBack(12, false, 1)", () -> x.keptBack(12, false, 1));
        Expect.bounds("keptBack(-1, true, 1)", () -> x.keptBack(-1, true, 1));
        Expect.bounds("keptBack(16, true, 1)", () -> x.keptBack(16, true, 1));
        Expect.argument("keptBack(0, true, 0)", () -> x.keptBack(0, true, 0));
        Expect.argument("keptBack(0, true, 7) without a fault", () -> x.keptBack(0, true, 7));
        Expect.due("keptBack(14, true, 6)", 0, () -> x.keptBack(14, true, 6));
    }

    private static void nothingIsChanged() {
        PoreField x = Fields.open();
        x.test(1);
        x.pass(2);
        x.test(0);
        PoreField twin = Fields.open();
        twin.test(1);
        twin.pass(2);
        twin.test(0);
        String before = state(x);
        x.wouldGive(12);
        x.bestChoke(0, 6);
        x.bestChoke(3, 6);
        x.keptBack(0, true, 6);
        x.keptBack(5, false, 6);
        x.mayLift(0);
        x.digest();
        Expect.due("all behind these", before, () -> state(x));
        x.book();
        twin.book();
        Expect.due("a month behind these", twin.pass(1), () -> x.pass(1));
        Expect.due("all a month behind these", state(twin), () -> state(x));
    }

    private static String state(PoreField x) {
        StringBuilder all = new StringBuilder(Fields.many(x));
        for (int c = 0; c < 16; c++) {
            all.append(x.ofCell(c, 0)).append(Fields.fluids(x, c));
        }
        for (int w = 0; w < x.many(1); w++) {
            for (int what = 0; what < 14; what++) {
                all.append(' ').append(x.ofWell(w, what));
            }
        }
        for (int p = 0; p < 3; p++) {
            all.append(Fields.partner(x, p));
        }
        return all.append(Fields.booked(x)).toString();
    }
}
