/** The sentences on reserves of the terms' part 4 with a limit or a first time, on its edges; promises 16, 20. */
final class ReservesEdgesTest {
    public static void main(String[] args) {
        withoutABooking();
        twelveMonths();
        asGreatATankAsOneLikes();
        theFirstOne();
        produced();
        wellsSinceThen();
        newBelowZero();
        newInjectors();
        pluggedNow();
        revised();
        atWhichNow();
        nothingElseIsChanged();
        Expect.finish();
    }

    /** Gives 4 4 3 3 3 2 2 2 2 2 1 1 in twelve months, and then 1 in each of some more. */
    private static PoreField oneWell() {
        return Fields.oneProducer(10, 50, 0, 0, 1);
    }

    private static void withoutABooking() {
        Expect.sentence("0 to 3: 0 without one");
        PoreField x = oneWell();
        x.pass(2);
        Expect.due("booked() without a booking", "[0, 0, 0, 0, -1]", () -> Fields.booked(x));
        Expect.due("many(14)", 0, () -> x.many(14));
        Expect.argument("booked(-1)", () -> x.booked(-1));
        Expect.argument("booked(5)", () -> x.booked(5));
    }

    private static void twelveMonths() {
        Expect.sentence("the OIL that all would GIVE in the next 12 MONTHS");
        PoreField x = oneWell();
        int[] due = {4, 4, 3, 3, 3, 2, 2, 2, 2, 2, 1, 1, 1, 1};
        Expect.due("book()", 29, () -> oneWell().book());
        for (int month = 0; month < due.length; month++) {
            int oil = due[month];
            Expect.due("the month " + month, oil, () -> x.pass(1));
        }
        // Of months 2 to 13, and 3 to 14.
        for (int month = 1; month <= 2; month++) {
            PoreField y = oneWell();
            y.pass(month);
            int reserves = 29 - 4 * month + month;
            Expect.due("book() " + month + " months on", reserves, () -> y.book());
        }
    }

    private static void asGreatATankAsOneLikes() {
        Expect.sentence("and the TANK was as great as one likes");
        for (int size : new int[] {0, 1, 28, 29, 30, 999}) {
            PoreField x = oneWell();
            x.tank(size);
            Expect.due("book() with a tank of " + size, 29, () -> x.book());
            Expect.due("pass(12) with a tank of " + size, Math.min(size, 29), () -> x.pass(12));
        }
        // A full one.
        PoreField y = oneWell();
        y.tank(4);
        y.pass(1);
        Expect.due("wouldGive(12) into a full tank", 0, () -> y.wouldGive(12));
        Expect.due("book() with a full tank", 26, () -> y.book());
        // The capacity is as it is: 99 in each of 12 months is more than a tank can be told to have room for.
        PoreField z = new PoreField();
        z.capacity(0, 99);
        for (int c = 0; c < 16; c++) {
            z.cell(c, 10, 99, 0, 0);
        }
        for (int w = 0; w < 6; w++) {
            Fields.drill(z, 0, 2 * w, 9);
        }
        z.tank(999);
        Expect.due("book()", 1188, () -> z.book());
        z.capacity(0, 98);
        Expect.due("book() with a capacity of 98", 1176, () -> z.book());
        Expect.due("pass(24) into the tank", 999, () -> z.pass(24));
        // As much once more than the greatest tank has when it is full.
        z.capacity(0, 99);
        for (int c = 0; c < 16; c++) {
            z.cell(c, 10, 99, 0, 0);
        }
        Expect.due("pass(1) into the full tank", 0, () -> z.pass(1));
        Expect.due("book() with a full tank of 999", 1188, () -> z.book());
        Expect.due("pass(1) into the full tank, booked", 0, () -> z.pass(1));
        // It is as great for what they would be less, too: 29 of an old one, and 29 of a new one.
        for (int size : new int[] {0, 28, 29, 57, 58}) {
            PoreField v = oneWell();
            v.tank(size);
            v.book();
            v.cell(1, 10, 50, 0, 0);
            Fields.drill(v, 0, 1, 1);
            Expect.due("book() of two with a tank of " + size, 58, () -> v.book());
            Expect.due("booked() of two with a tank of " + size, "[58, 0, 29, 0, 0]", () -> Fields.booked(v));
        }
    }

    private static void theFirstOne() {
        Expect.sentence("what was produced since the last BOOKING (0 at the first one), as a number below 0");
        PoreField x = oneWell();
        x.pass(2);
        Expect.due("book()", 23, () -> x.book());
        Expect.due("booked(1) of the first one", 0, () -> x.booked(1));
        Expect.sentence("(at the first one by all WELLS)");
        Expect.due("booked(2) of the first one", 23, () -> x.booked(2));
        Expect.sentence("(the first one: all but NEW, with 0 ahead)");
        Expect.due("booked(3) of the first one", 0, () -> x.booked(3));
        // Without any well.
        PoreField y = new PoreField();
        y.cell(0, 10, 99, 0, 0);
        Expect.due("book() without wells", 0, () -> y.book());
        Expect.due("booked()", "[0, 0, 0, 0, 0]", () -> Fields.booked(y));
        // The first one was the one ahead, though it had no reserves.
        Fields.drill(y, 0, 0, 1);
        y.pass(1);
        int oil = y.many(5);
        int reserves = y.book();
        Expect.due("booked() of the second one", Expect.row(reserves, -oil, reserves, oil, 1), () -> Fields.booked(y));
    }

    private static void produced() {
        Expect.sentence("what was produced since the last BOOKING (0 at the first one), as a number below 0");
        PoreField x = oneWell();
        x.book();
        int[] due = {0, -4, -4, -3, 0};
        for (int turn = 0; turn < due.length; turn++) {
            if (due[turn] < 0) {
                x.pass(1);
            }
            x.book();
            int since = due[turn];
            Expect.due("booked(1) of the turn " + turn, since, () -> x.booked(1));
        }
        x.pass(4);
        // 3 3 2 2 of these: what ships lift is produced all the same.
        x.lift(0, 9);
        x.book();
        Expect.due("booked(1) of four months", -10, () -> x.booked(1));
        // And what was lifted ahead of a booking was not produced since then.
        PoreField y = oneWell();
        y.pass(2);
        y.lift(0, 5);
        y.book();
        y.pass(1);
        y.lift(0, 6);
        y.book();
        Expect.due("booked(1) of a month, with ships ahead of both", -3, () -> y.booked(1));
    }

    private static void wellsSinceThen() {
        Expect.sentence("what they are more by WELLS that were drilled since then");
        PoreField x = oneWell();
        for (int c = 1; c <= 2; c++) {
            x.cell(c, 10, 50, 0, 0);
        }
        x.book();
        Expect.due("without a new one", 0, () -> freshOf(x));
        Fields.drill(x, 0, 1, 1);
        Expect.due("with one", 29, () -> freshOf(x));
        Expect.due("booked()", "[58, 0, 29, 0, 0]", () -> Fields.booked(x));
        Expect.due("it is new once", 0, () -> freshOf(x));
        Fields.drill(x, 0, 2, 1);
        Fields.drill(x, 0, 2, 1);
        int before = x.booked(0);
        Expect.due("with two of a cell", x.wouldGive(12) - before, () -> freshOf(x));
        // A well that was there is none of these, however it is choked since then.
        PoreField y = oneWell();
        y.choke(0, 0);
        y.book();
        y.choke(0, 1);
        y.book();
        Expect.due("a choke of an old one", "[29, 0, 0, 29, 0]", () -> Fields.booked(y));
        // All six are new at once, or none of them.
        PoreField z = Fields.walled();
        for (int w = 0; w < 6; w++) {
            z.cell(w, 10, 50, 0, 0);
            Fields.drill(z, 0, w, 1);
        }
        Expect.due("six new ones", 174, () -> freshOf(z));
        Expect.due("six old ones", 0, () -> freshOf(z));
    }

    private static int freshOf(PoreField x) {
        x.book();
        return x.booked(2);
    }

    private static void newBelowZero() {
        Expect.sentence("what they would be less, if these were PLUGGED now (it can be below 0)");
        // The new one takes what is free of the capacity for water, without any oil.
        PoreField x = Fields.oneProducer(10, 40, 40, 0, 9);
        x.capacity(1, 5);
        int before = x.book();
        x.cell(1, 10, 0, 99, 0);
        Fields.drill(x, 0, 1, 9);
        x.rank(1, 4);
        int then = x.book();
        Expect.due("less than before", true, () -> then < before);
        Expect.due("booked()", Expect.row(then, 0, then - before, 0, 0), () -> Fields.booked(x));
    }

    private static void newInjectors() {
        Expect.sentence("NEW: what they are more by WELLS that were drilled since then");
        PoreField x = Fields.oneProducer(40, 30, 0, 0, 4);
        int before = x.book();
        Fields.drill(x, 1, 0, 9);
        int then = x.book();
        Expect.due("more than before", true, () -> then > before);
        Expect.due("booked()", Expect.row(then, 0, then - before, 0, 0), () -> Fields.booked(x));
        // And one that takes gas: without it no gas may come up.
        PoreField y = Fields.oneProducer(10, 20, 0, 20, 1);
        y.permit(0);
        int few = y.book();
        Fields.drill(y, 2, 15, 9);
        int many = y.book();
        Expect.due("more with an injector", true, () -> many > few);
        Expect.due("booked()", Expect.row(many, 0, many - few, 0, 0), () -> Fields.booked(y));
    }

    private static void pluggedNow() {
        Expect.sentence("if these were PLUGGED now");
        PoreField x = oneWell();
        x.book();
        x.cell(1, 10, 50, 0, 0);
        Fields.drill(x, 0, 1, 1);
        x.pass(1);
        x.plug(1);
        // It gave 4 of the 8, and gives no more.
        Expect.due("book()", 26, () -> x.book());
        Expect.due("booked()", "[26, -8, 0, 5, 1]", () -> Fields.booked(x));
        Expect.due("the well is as it was", 0, () -> x.ofWell(0, 4));
        x.plug(0);
        Expect.due("book() with all of them plugged", 0, () -> x.book());
        Expect.due("booked()", "[0, 0, 0, -26, 1]", () -> Fields.booked(x));
        // A new one without a choke adds nothing.
        Fields.drill(x, 0, 1, 0);
        Expect.due("book() with one that is shut", 0, () -> x.book());
        Expect.due("booked()", "[0, 0, 0, 0, 1]", () -> Fields.booked(x));
        x.choke(2, 1);
        x.book();
        Expect.due("it is no new one then", 0, () -> x.booked(2));
    }

    private static void revised() {
        Expect.sentence("REVISED: the rest of the difference to the last BOOKING");
        PoreField x = oneWell();
        x.book();
        x.cell(1, 10, 50, 0, 0);
        Fields.drill(x, 0, 1, 1);
        x.pass(2);
        x.cell(0, 10, 0, 50, 0);
        // 29 ahead; 16 were produced; the new one has 23 to give, and the old one has water now.
        Expect.due("book()", 23, () -> x.book());
        Expect.due("booked()", "[23, -16, 23, -13, 2]", () -> Fields.booked(x));
        Expect.due("book() again", 23, () -> x.book());
        Expect.due("booked(): no difference at all", "[23, 0, 0, 0, 2]", () -> Fields.booked(x));
    }

    private static void atWhichNow() {
        Expect.sentence("4 at which NOW it was (NONE)");
        PoreField x = oneWell();
        Expect.due("booked(4) without one", -1, () -> x.booked(4));
        x.book();
        Expect.due("booked(4) of one at first", 0, () -> x.booked(4));
        x.pass(1);
        Expect.due("booked(4) a month on", 0, () -> x.booked(4));
        x.book();
        Expect.due("booked(4) of the second one", 1, () -> x.booked(4));
        x.pass(24);
        x.book();
        Expect.due("booked(4) of the third one", 25, () -> x.booked(4));
        Expect.due("many(14)", 3, () -> x.many(14));
    }

    private static void nothingElseIsChanged() {
        Expect.sentence("BOOKS RESERVES.");
        PoreField x = oneWell();
        x.test(0);
        x.pass(2);
        x.test(0);
        String before = without14(x);
        x.book();
        Expect.due("many() behind book()", before, () -> without14(x));
        Expect.due("what it gave in the latest month", "[4, 0, 0]", () -> Fields.gave(x, 0));
        Expect.due("its test", "[4, 0, 0]", () -> Fields.tested(x, 0));
        Expect.due("to be tested", 1, () -> x.ofWell(0, 13));
        Expect.due("tank(8) is what it has", 8, () -> x.tank(8));
        Expect.due("pass(1) with a full tank", 0, () -> x.pass(1));
    }

    private static String without14(PoreField x) {
        String all = Fields.many(x);
        return all.substring(0, all.lastIndexOf(','));
    }
}
