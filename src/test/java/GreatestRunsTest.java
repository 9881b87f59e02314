/**
 * "An object is used for at most 512 calls": runs of nearly so many, with the greatest numbers that they lead to. The
 * sums are told from what a single month does, or from the answers of the calls themselves.
 */
final class GreatestRunsTest {
    private static final int CALLS = 512;

    private final PoreField x = new PoreField();
    private int calls;

    public static void main(String[] args) {
        new GreatestRunsTest().waterUpAndIn();
        new GreatestRunsTest().gasUpAndIn();
        new GreatestRunsTest().gasFlared();
        new GreatestRunsTest().oilLifted();
        new GreatestRunsTest().oilOfOneWell();
        new GreatestRunsTest().gasInOneCell();
        new GreatestRunsTest().bookings();
        Expect.finish();
    }

    // ---- calls that are counted

    private boolean hasCalls(int more) {
        return calls + more <= CALLS;
    }

    private void walls() {
        for (int c = 0; c < 16; c++) {
            for (boolean isEast : new boolean[] {true, false}) {
                if (Fields.beside(c, isEast) >= 0) {
                    x.fault(c, isEast, true);
                    calls++;
                }
            }
        }
    }

    private void drill(int kind, int cell) {
        x.choke(x.well(kind, cell), 9);
        calls += 2;
    }

    private void limits(int most, int permit) {
        for (int f = 0; f < 3; f++) {
            x.capacity(f, most);
        }
        x.permit(permit);
        x.tank(999);
        x.price(99);
        calls += 6;
    }

    private void cell(int cell, int oil, int water, int gas) {
        x.cell(cell, 10, oil, water, gas);
        calls++;
    }

    private int pass(int months) {
        calls++;
        return x.pass(months);
    }

    // ---- the runs

    /** In each of three cells a producer takes 9 * 200 / 100 of 25, and an injector puts in 18 again. */
    private void waterUpAndIn() {
        Expect.sentence("11 WATER that was put in ever");
        walls();
        limits(99, 99);
        for (int c = 0; c < 3; c++) {
            cell(c, 0, 25, 0);
            drill(0, c);
            drill(1, c);
        }
        int months = 0;
        while (hasCalls(1)) {
            pass(24);
            months += 24;
        }
        Expect.due("all of many()", Expect.row(months, 6, 0, 75, 0, 0, 54 * months, 0, 0, 0, 0, 54 * months, 0, 24, 0),
                () -> Fields.many(x));
        Expect.due("months enough", true, () -> x.many(0) > 10_000);
    }

    /** In each of three cells a producer takes all of 18, and an injector puts in 18 again. */
    private void gasUpAndIn() {
        Expect.sentence("10 that was put back");
        walls();
        limits(99, 0);
        for (int c = 0; c < 3; c++) {
            cell(c, 0, 0, 18);
            drill(0, c);
            drill(2, c);
        }
        int months = 0;
        while (hasCalls(1)) {
            pass(24);
            months += 24;
        }
        Expect.due("all of many()", Expect.row(months, 6, 0, 0, 54, 0, 0, 54 * months, 0, 0, 54 * months, 0, 0, 24, 0),
                () -> Fields.many(x));
    }

    /** Of six cells one after the other gives all of its 99, which is the capacity and the permit. */
    private void gasFlared() {
        Expect.sentence("9 GAS that was FLARED ever");
        walls();
        limits(99, 99);
        for (int c = 0; c < 6; c++) {
            drill(0, c);
        }
        int flared = 0;
        int months = 0;
        while (hasCalls(7)) {
            for (int c = 0; c < 6; c++) {
                cell(c, 0, 0, 99);
            }
            pass(24);
            flared += 6 * 99;
            months += 24;
        }
        Expect.due("all of many()", Expect.row(months, 6, 0, 0, 0, 0, 0, flared, 0, flared, 0, 0, -flared, 24, 0),
                () -> Fields.many(x));
    }

    /** Of six cells each gives 93 of its 99: with 6 left it has a pressure of 60, and 9 * 10 / 100 is 0. */
    private void oilLifted() {
        Expect.sentence("MONEY of a PARTNER is LIFTED OIL times the PRICE then");
        walls();
        limits(99, 0);
        for (int c = 0; c < 6; c++) {
            drill(0, c);
        }
        int rounds = 0;
        while (hasCalls(8)) {
            for (int c = 0; c < 6; c++) {
                cell(c, 99, 0, 0);
            }
            Expect.due("pass(24)", 558, () -> pass(24));
            Expect.due("lift(0, 999)", 558, () -> x.lift(0, 999));
            calls++;
            rounds++;
        }
        int oil = 558 * rounds;
        Expect.due("partner 0", Expect.row(100, oil, oil, 99 * oil), () -> Fields.partner(x, 0));
        Expect.due("all of many()", Expect.row(24 * rounds, 6, 36, 0, 0, oil, 0, 0, 0, 0, 0, 0, 0, 24, 0),
                () -> Fields.many(x));
    }

    /** What comes to the one producer from all the other cells is given by it, and allocated to it. */
    private void oilOfOneWell() {
        Expect.sentence("11 OIL that it GAVE ever, 12 OIL that was ALLOCATED to it ever");
        limits(99, 0);
        drill(0, 5);
        int oil = 0;
        while (hasCalls(20)) {
            for (int c = 0; c < 16; c++) {
                cell(c, 99, 0, 0);
            }
            oil += pass(12);
            x.lift(0, 999);
            oil += pass(12);
            x.lift(0, 999);
            calls += 2;
        }
        int sum = oil;
        Expect.due("oil by truth, allocated, that came up", Expect.row(sum, sum, sum),
                () -> Expect.row(x.ofWell(0, 11), x.ofWell(0, 12), x.many(5)));
        Expect.due("entitled", sum, () -> x.ofPartner(0, 1));
    }

    /** Each month 90 of gas go from one cell into another one, whatever its pressure is. */
    private void gasInOneCell() {
        Expect.sentence("its PRESSURE 100 times ALL, divided by ROOM");
        walls();
        limits(99, 0);
        cell(15, 0, 0, 0);
        drill(0, 0);
        for (int w = 1; w < 6; w++) {
            drill(2, 15);
        }
        int gas = 0;
        while (hasCalls(12)) {
            cell(0, 0, 0, 90);
            pass(1);
            gas += 90;
        }
        int all = gas;
        Expect.due("the gas of one cell", all, () -> x.ofCell(15, 3));
        Expect.due("its pressure", 10 * all, () -> x.ofCell(15, 4));
        Expect.due("meanPressure()", 10 * all / 16.0, () -> x.meanPressure());
        // It differs by all / 2 times 20, and gas goes twice as fast: all of it goes, and a month on it comes back.
        x.fault(11, false, false);
        x.cell(11, 10, 0, 0, 0);
        pass(1);
        Expect.due("through the fault that was", Expect.row(all, 0),
                () -> Expect.row(x.ofCell(11, 3), x.ofCell(15, 3)));
        pass(1);
        Expect.due("and back", Expect.row(0, all), () -> Expect.row(x.ofCell(11, 3), x.ofCell(15, 3)));
    }

    private void bookings() {
        Expect.sentence("14 how many BOOKINGS");
        walls();
        drill(0, 0);
        int count = 0;
        while (hasCalls(1)) {
            x.book();
            calls++;
            count++;
        }
        int due = count;
        Expect.due("many(14)", due, () -> x.many(14));
        Expect.due("booked()", "[0, 0, 0, 0, 0]", () -> Fields.booked(x));
    }
}
