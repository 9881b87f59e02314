/** The sentences of part 4 of the terms on ships and money that name a limit, on its edges; promises 15, 19, 26. */
final class ShipsEdgesTest {
    public static void main(String[] args) {
        whatTheTankHas();
        overlift();
        entitledAndOverlift();
        lessWhatItLifted();
        tankAndOverliftTogether();
        nothingToLift();
        moneyAtThePriceThen();
        theFieldsMoney();
        waterCostsNothing();
        mayLiftChangesNothing();
        Expect.finish();
    }

    /** So much oil in the tank (84 at most), to which the partners are entitled by these shares. */
    private static PoreField withOil(int oil, int first, int second) {
        PoreField x = Fields.oneProducer(10, 99, 0, 0, 9);
        x.capacity(0, 99);
        x.tank(oil);
        x.shares(first, second);
        x.pass(1);
        return x;
    }

    private static void whatTheTankHas() {
        Expect.sentence("no more than the TANK has");
        int[][] due = {{1, 1}, {29, 29}, {30, 30}, {31, 30}, {998, 30}, {999, 30}};
        for (int[] d : due) {
            PoreField x = withOil(30, 100, 0);
            Expect.due("mayLift(0)", 30, () -> x.mayLift(0));
            Expect.due("lift(0, " + d[0] + ")", d[1], () -> x.lift(0, d[0]));
            Expect.due("what the tank has then", 30 - d[1], () -> x.many(8));
            Expect.due("what came up ever", 30, () -> x.many(5));
            Expect.due("partner 0", Expect.row(100, 30, d[1], 5 * d[1]), () -> Fields.partner(x, 0));
        }
        fullOf999();
        Expect.argument("lift(0, 0)", () -> withOil(30, 100, 0).lift(0, 0));
        Expect.argument("lift(0, 1000)", () -> withOil(30, 100, 0).lift(0, 1000));
    }

    /** The most that can be lifted at all: the greatest tank, full, in one call. */
    private static void fullOf999() {
        PoreField x = Fields.walled();
        x.tank(999);
        x.capacity(0, 99);
        for (int w = 0; w < 6; w++) {
            Fields.drill(x, 0, w, 9);
        }
        for (int month = 0; month < 11; month++) {
            for (int w = 0; w < 6; w++) {
                x.cell(w, 10, 99, 0, 0);
            }
            x.pass(1);
        }
        x.price(99);
        Expect.due("mayLift(0) of a full tank", 999, () -> x.mayLift(0));
        Expect.due("lift(0, 999)", 999, () -> x.lift(0, 999));
        Expect.due("partner 0", Expect.row(100, 999, 999, 98901), () -> Fields.partner(x, 0));
        Expect.due("what the tank has then", 0, () -> x.many(8));
    }

    private static void overlift() {
        Expect.sentence("no more than it is ENTITLED to less what it LIFTED, and 20 more (OVERLIFT)");
        for (int partner = 1; partner <= 2; partner++) {
            int p = partner;
            int[][] due = {{1, 1}, {19, 19}, {20, 20}, {21, 20}, {999, 20}};
            for (int[] d : due) {
                PoreField x = withOil(60, 100, 0);
                Expect.due("mayLift(" + p + ")", 20, () -> x.mayLift(p));
                Expect.due("lift(" + p + ", " + d[0] + ")", d[1], () -> x.lift(p, d[0]));
                Expect.due("mayLift(" + p + ") then", 20 - d[1], () -> x.mayLift(p));
                Expect.due("lift(" + p + ", 999) then", 20 - d[1], () -> x.lift(p, 999));
                Expect.due("lift(" + p + ", 1) then", 0, () -> x.lift(p, 1));
                Expect.due("what the tank has then", 40, () -> x.many(8));
            }
        }
    }

    private static void entitledAndOverlift() {
        Expect.sentence("no more than it is ENTITLED to less what it LIFTED, and 20 more (OVERLIFT)");
        // Of 80 the partner 1 is entitled to 40: 60 together.
        int[][] due = {{59, 59}, {60, 60}, {61, 60}, {999, 60}};
        for (int[] d : due) {
            PoreField x = withOil(80, 50, 50);
            Expect.due("mayLift(1)", 60, () -> x.mayLift(1));
            Expect.due("lift(1, " + d[0] + ")", d[1], () -> x.lift(1, d[0]));
            Expect.due("partner 1", Expect.row(50, 40, d[1], 5 * d[1]), () -> Fields.partner(x, 1));
            Expect.due("mayLift(1) then", 60 - d[1], () -> x.mayLift(1));
            // What is left in the tank is less than what the partner 0 is entitled to.
            Expect.due("mayLift(0) then", 80 - d[1], () -> x.mayLift(0));
            Expect.due("mayLift(2) then", Math.min(20, 80 - d[1]), () -> x.mayLift(2));
        }
    }

    private static void lessWhatItLifted() {
        Expect.sentence("ENTITLED to less what it LIFTED");
        PoreField x = withOil(80, 50, 50);
        int may = 60;
        for (int oil : new int[] {1, 38, 1, 19, 1}) {
            int before = may;
            Expect.due("mayLift(1)", before, () -> x.mayLift(1));
            Expect.due("lift(1, " + oil + ")", oil, () -> x.lift(1, oil));
            may -= oil;
        }
        Expect.due("mayLift(1) when all is lifted", 0, () -> x.mayLift(1));
        Expect.due("lift(1, 1) when all is lifted", 0, () -> x.lift(1, 1));
        // More of a month is free for it at once; a share told since then changes nothing of what it was entitled to.
        x.cell(0, 10, 99, 0, 0);
        x.capacity(0, 6);
        x.pass(1);
        Expect.due("mayLift(1) a month on", 3, () -> x.mayLift(1));
        x.shares(100, 0);
        Expect.due("mayLift(1) without a share", 3, () -> x.mayLift(1));
        Expect.due("lift(1, 4)", 3, () -> x.lift(1, 4));
    }

    private static void tankAndOverliftTogether() {
        Expect.sentence("no more than the TANK has, and no more than it is ENTITLED to less what it LIFTED, and 20 "
                + "more");
        int[][] due = {{0, 0}, {1, 1}, {19, 19}, {20, 20}, {21, 20}};
        for (int[] d : due) {
            PoreField x = withOil(d[0], 100, 0);
            Expect.due("mayLift(1) from a tank with " + d[0], d[1], () -> x.mayLift(1));
            Expect.due("lift(1, 999) from a tank with " + d[0], d[1], () -> x.lift(1, 999));
            Expect.due("what the tank has then", d[0] - d[1], () -> x.many(8));
        }
        // What others lift is gone for the one that is entitled to it.
        PoreField x = withOil(50, 100, 0);
        x.lift(1, 20);
        x.lift(2, 20);
        Expect.due("mayLift(0): entitled to 50, but 10 are there", 10, () -> x.mayLift(0));
        Expect.due("lift(0, 11)", 10, () -> x.lift(0, 11));
        Expect.due("mayLift(0) of an empty tank", 0, () -> x.mayLift(0));
    }

    private static void nothingToLift() {
        Expect.sentence("no more than the TANK has");
        PoreField x = new PoreField();
        for (int p = 0; p < 3; p++) {
            int partner = p;
            Expect.due("mayLift(" + p + ")", 0, () -> x.mayLift(partner));
            Expect.due("lift(" + p + ", 999)", 0, () -> x.lift(partner, 999));
            Expect.due("partner " + p, Expect.row(p == 0 ? 100 : 0, 0, 0, 0), () -> Fields.partner(x, partner));
        }
        Expect.bounds("mayLift(-1)", () -> x.mayLift(-1));
        Expect.bounds("mayLift(3)", () -> x.mayLift(3));
    }

    private static void moneyAtThePriceThen() {
        Expect.sentence("MONEY of a PARTNER is LIFTED OIL times the PRICE then");
        PoreField x = withOil(80, 100, 0);
        int money = 0;
        int lifted = 0;
        // The price and the oil.
        for (int[] pair : new int[][] {{5, 1}, {0, 10}, {1, 10}, {98, 10}, {99, 10}, {5, 3}}) {
            x.price(pair[0]);
            Expect.due("money behind price(" + pair[0] + ")", money, () -> x.ofPartner(0, 3));
            x.lift(0, pair[1]);
            money += pair[0] * pair[1];
            lifted += pair[1];
            Expect.due("money behind lift(0, " + pair[1] + ")", money, () -> x.ofPartner(0, 3));
        }
        Expect.due("partner 0", Expect.row(100, 80, lifted, 2000), () -> Fields.partner(x, 0));
        Expect.due("the others have none", "[0, 0]", () -> Expect.row(x.ofPartner(1, 3), x.ofPartner(2, 3)));
        // By what it lifted, and not by what it wanted to.
        PoreField y = withOil(3, 100, 0);
        y.price(99);
        y.lift(2, 999);
        Expect.due("partner 2", "[0, 0, 3, 297]", () -> Fields.partner(y, 2));
    }

    private static void theFieldsMoney() {
        Expect.sentence("The FIELD has MONEY of its own (0 at first), which is 1 less for each GAS that is FLARED, and "
                + "changes by nothing else.");
        Expect.due("many(12) at first", 0, () -> new PoreField().many(12));
        // 8 of gas, of which an injector takes 6, 8, or could take more.
        for (int choke = 3; choke <= 5; choke++) {
            PoreField x = Fields.oneProducer(10, 0, 0, 50, 1);
            Fields.drill(x, 2, 5, choke);
            x.pass(1);
            Expect.due("many(12) with a choke of " + choke, choke == 3 ? -2 : 0, () -> x.many(12));
        }
        PoreField y = Fields.oneProducer(10, 50, 0, 40, 1);
        y.price(99);
        y.pass(3);
        int flared = y.many(9);
        Expect.due("gas is flared", true, () -> flared > 0);
        Expect.due("many(12)", -flared, () -> y.many(12));
        y.lift(0, 5);
        y.book();
        y.plug(0);
        y.pass(2);
        Expect.due("many(12) behind a ship, a booking and months without gas", -flared, () -> y.many(12));
    }

    private static void waterCostsNothing() {
        Expect.sentence("Each WATER that is put in costs no one anything.");
        PoreField x = Fields.walled();
        Fields.drill(x, 1, 0, 9);
        x.pass(1);
        Expect.due("water put in", 18, () -> x.many(11));
        Expect.due("the field's money", 0, () -> x.many(12));
        for (int month = 0; month < 20; month++) {
            x.cell(0, 90, 0, 0, 0);
            x.pass(10);
        }
        Expect.due("water put in", 3618, () -> x.many(11));
        Expect.due("the field's money", 0, () -> x.many(12));
        for (int p = 0; p < 3; p++) {
            int partner = p;
            Expect.due("the money of " + p, 0, () -> x.ofPartner(partner, 3));
        }
    }

    private static void mayLiftChangesNothing() {
        Expect.sentence("what would be (nothing is changed; as all stays as it is)");
        for (int p = 0; p < 3; p++) {
            int partner = p;
            PoreField x = withOil(80, 50, 25);
            int may = x.mayLift(p);
            Expect.due("mayLift(" + p + ") again", may, () -> x.mayLift(partner));
            Expect.due("all behind mayLift(" + p + ")", Whole.of(withOil(80, 50, 25)), () -> Whole.of(x));
            Expect.due("lift(" + p + ", 999)", may, () -> withOil(80, 50, 25).lift(partner, 999));
        }
    }
}
