/** Promises 16 (book) and 20 (booked). */
final class ReservesTest {
    public static void main(String[] args) {
        withoutWells();
        firstBooking();
        causes();
        fullTank();
        worseByNewWells();
        pluggedWells();
        Expect.finish();
    }

    /** Gives, month by month: 4 4 3 3 3 2 2 2 2 2 1 1, then 1 1. */
    private static PoreField oneWell() {
        PoreField x = Fields.walled();
        x.cell(0, 10, 50, 0, 0);
        Fields.drill(x, 0, 0, 1);
        return x;
    }

    private static void withoutWells() {
        PoreField x = new PoreField();
        Expect.argument("booked(-1)", () -> x.booked(-1));
        Expect.argument("booked(5)", () -> x.booked(5));
        Expect.due("booked() without a booking", "[0, 0, 0, 0, -1]", () -> Fields.booked(x));
        x.pass(7);
        Expect.due("many(14)", 0, () -> x.many(14));
        Expect.due("book()", 0, () -> x.book());
        Expect.due("booked()", "[0, 0, 0, 0, 7]", () -> Fields.booked(x));
        Expect.due("many(14)", 1, () -> x.many(14));
        x.book();
        Expect.due("many(14)", 2, () -> x.many(14));
    }

    private static void firstBooking() {
        PoreField x = oneWell();
        Expect.due("book()", 29, () -> x.book());
        Expect.due("booked()", "[29, 0, 29, 0, 0]", () -> Fields.booked(x));
        PoreField y = oneWell();
        y.pass(2);
        Expect.due("book() two months on", 23, () -> y.book());
        Expect.due("booked(): what came up ahead is not produced", "[23, 0, 23, 0, 2]", () -> Fields.booked(y));
    }

    private static void causes() {
        PoreField x = oneWell();
        x.book();
        x.pass(2);
        Expect.due("booked() until the next one", "[29, 0, 29, 0, 0]", () -> Fields.booked(x));
        Expect.due("book()", 23, () -> x.book());
        Expect.due("booked()", "[23, -8, 0, 2, 2]", () -> Fields.booked(x));
        x.cell(1, 10, 50, 0, 0);
        Fields.drill(x, 0, 1, 1);
        Expect.due("book() with a new well", 52, () -> x.book());
        Expect.due("booked()", "[52, 0, 29, 0, 2]", () -> Fields.booked(x));
        Expect.due("book() with it as an old one", 52, () -> x.book());
        Expect.due("booked()", "[52, 0, 0, 0, 2]", () -> Fields.booked(x));
        x.cell(1, 10, 0, 50, 0);
        Expect.due("book() with water for oil", 23, () -> x.book());
        Expect.due("booked()", "[23, 0, 0, -29, 2]", () -> Fields.booked(x));
        Expect.due("many(14)", 5, () -> x.many(14));
        Expect.due("NOW is as before", 2, () -> x.many(0));
    }

    private static void fullTank() {
        PoreField x = oneWell();
        x.tank(0);
        Expect.due("book() with a tank of 0", 29, () -> x.book());
        Expect.due("pass(12) with a tank of 0", 0, () -> x.pass(12));
        Expect.due("book() again", 29, () -> x.book());
        Expect.due("booked()", "[29, 0, 0, 0, 12]", () -> Fields.booked(x));
        // More than any tank can be told to have room for: 99 in each of the 12 months.
        PoreField y = new PoreField();
        y.capacity(0, 99);
        for (int c = 0; c < 16; c++) {
            y.cell(c, 10, 99, 0, 0);
        }
        for (int w = 0; w < 6; w++) {
            Fields.drill(y, 0, 2 * w, 9);
        }
        y.tank(999);
        Expect.due("book() of more than 999", 1188, () -> y.book());
        Expect.due("the tank is as great as before", 999, () -> y.pass(24));
    }

    private static void worseByNewWells() {
        // The new well takes the permit, so that the old one gives less.
        PoreField x = Fields.walled();
        x.cell(0, 10, 40, 0, 40);
        x.cell(1, 10, 0, 0, 99);
        Fields.drill(x, 0, 0, 5);
        int before = x.book();
        Fields.drill(x, 0, 1, 9);
        x.rank(1, 1);
        int then = x.book();
        Expect.due("reserves are less then", true, () -> then < before);
        Expect.due("booked(2)", then - before, () -> x.booked(2));
        Expect.due("booked(3)", 0, () -> x.booked(3));
        Expect.due("the new well is not plugged", 9, () -> x.ofWell(1, 2));
    }

    private static void pluggedWells() {
        PoreField x = oneWell();
        x.book();
        x.plug(0);
        Expect.due("book() with a plugged well", 0, () -> x.book());
        Expect.due("booked(): it is no new one", "[0, 0, 0, -29, 0]", () -> Fields.booked(x));
        // A well that was drilled and plugged since then adds nothing.
        x.cell(1, 10, 50, 0, 0);
        Fields.drill(x, 0, 1, 1);
        x.pass(1);
        x.plug(1);
        Expect.due("book()", 0, () -> x.book());
        Expect.due("booked()", "[0, -4, 0, 4, 1]", () -> Fields.booked(x));
    }
}
