/** The sentences of part 2 of the terms that name a limit or what is at first, on its edges; promises 4 to 13, 18. */
final class WellsEdgesTest {
    public static void main(String[] args) {
        sixWells();
        kinds();
        atFirst();
        chokes();
        ranks();
        severalInOneCell();
        toBeTested();
        theLatestTest();
        plugged();
        whatAWellGave();
        capacities();
        permit();
        tank();
        shares();
        price();
        Expect.finish();
    }

    private static void sixWells() {
        Expect.sentence("WELLS: at most 6, numbered from 0");
        PoreField x = new PoreField();
        for (int w = 0; w < 6; w++) {
            int number = w;
            Expect.due("many(1)", number, () -> x.many(1));
            Expect.bounds("ofWell of one not drilled yet", () -> x.ofWell(number, 1));
            Expect.due("well", number, () -> x.well(number % 3, 15 - number));
            Expect.due("its cell", 15 - number, () -> x.ofWell(number, 1));
        }
        Expect.state("the seventh one", () -> x.well(0, 0));
        Expect.due("many(1)", 6, () -> x.many(1));
        Expect.bounds("ofWell(6, 1)", () -> x.ofWell(6, 1));
        // A plugged one is a well still.
        for (int w = 0; w < 6; w++) {
            x.plug(w);
        }
        Expect.state("the seventh one, all plugged", () -> x.well(0, 0));
        Expect.due("many(1)", 6, () -> x.many(1));
    }

    private static void kinds() {
        Expect.sentence("of a KIND (0 PRODUCER, 1 WATER INJECTOR, 2 GAS INJECTOR)");
        PoreField x = Fields.walled();
        for (int kind = 0; kind <= 2; kind++) {
            int k = kind;
            x.cell(k, 10, 4, 4, 2);
            Fields.drill(x, k, k, 4);
            Expect.due("ofWell(" + k + ", 0)", k, () -> x.ofWell(k, 0));
        }
        // The producer moves 4 * 50 / 100, which is 2 of 10 times; of its gas just 2 * 2 * 2 / 10, which is 0.
        x.pass(1);
        Expect.due("the producer", "[0, 0, 0]", () -> Fields.gave(x, 0));
        Expect.due("the water injector", "[0, 8, 0]", () -> Fields.gave(x, 1));
        Expect.due("the gas injector without gas", "[0, 0, 0]", () -> Fields.gave(x, 2));
        x.cell(0, 10, 0, 0, 10);
        x.pass(1);
        Expect.due("the producer with gas", "[0, 0, 4]", () -> Fields.gave(x, 0));
        Expect.due("the gas injector then", "[0, 0, 4]", () -> Fields.gave(x, 2));
        Expect.argument("a kind of -1", () -> x.well(-1, 0));
        Expect.argument("a kind of 3", () -> x.well(3, 0));
    }

    private static void atFirst() {
        for (int kind = 0; kind <= 2; kind++) {
            PoreField x = new PoreField();
            int k = kind;
            Expect.due("the first well", 0, () -> x.well(k, 15));
            Expect.sentence("with a CHOKE (0 to 9; 0 at first)");
            Expect.due("ofWell(0, 2)", 0, () -> x.ofWell(0, 2));
            Expect.due("choke(0, 0)", 0, () -> x.choke(0, 0));
            Expect.sentence("a RANK (1 to 9; 5 at first)");
            Expect.due("ofWell(0, 3)", 5, () -> x.ofWell(0, 3));
            Expect.due("rank(0, 5)", 5, () -> x.rank(0, 5));
            Expect.sentence("PLUGGED or not");
            Expect.due("ofWell(0, 4)", 0, () -> x.ofWell(0, 4));
            Expect.sentence("a TEST (what it gave of the three FLUIDS in the latest MONTH that it was TESTED in: "
                    + "0 of each at first)");
            Expect.due("ofWell(0, 5 to 7)", "[0, 0, 0]", () -> Fields.tested(x, 0));
            Expect.sentence("8 to 10 what it GAVE in the latest MONTH");
            Expect.due("ofWell(0, 8 to 10)", "[0, 0, 0]", () -> Fields.gave(x, 0));
            Expect.due("ofWell(0, 11)", 0, () -> x.ofWell(0, 11));
            Expect.due("ofWell(0, 12)", 0, () -> x.ofWell(0, 12));
            Expect.due("ofWell(0, 13)", 0, () -> x.ofWell(0, 13));
        }
        // A well takes nothing over from a month that was ahead of it.
        PoreField y = Fields.oneProducer(10, 50, 0, 0, 1);
        y.pass(1);
        y.well(0, 0);
        Expect.due("what one drilled behind the month gave in it", "[0, 0, 0]", () -> Fields.gave(y, 1));
        Expect.due("what the other one gave in it", "[4, 0, 0]", () -> Fields.gave(y, 0));
    }

    private static void chokes() {
        Expect.sentence("Tells the CHOKE of a WELL.");
        PoreField x = Fields.walled();
        x.well(1, 0);
        int before = 0;
        for (int choke : new int[] {9, 8, 1, 0, 0, 9}) {
            int due = before;
            Expect.due("choke(0, " + choke + ")", due, () -> x.choke(0, choke));
            Expect.due("ofWell(0, 2)", choke, () -> x.ofWell(0, 2));
            x.cell(0, 90, 0, 0, 0);
            x.pass(1);
            Expect.due("what is put in with it", 2 * choke, () -> x.ofWell(0, 9));
            before = choke;
        }
        Expect.argument("choke(0, 10)", () -> x.choke(0, 10));
        Expect.argument("choke(0, -1)", () -> x.choke(0, -1));
        Expect.due("ofWell(0, 2) behind these", 9, () -> x.ofWell(0, 2));
        // It is the choke alone that is told.
        PoreField y = Fields.oneProducer(10, 50, 0, 0, 1);
        y.test(0);
        y.pass(1);
        y.test(0);
        Expect.due("choke(0, 7)", 1, () -> y.choke(0, 7));
        Expect.due("all but the choke", "[0, 0, 7, 5, 0, 4, 0, 0, 4, 0, 0, 4, 4, 1]", () -> all(y, 0));
    }

    private static String all(PoreField x, int well) {
        int[] row = new int[14];
        for (int what = 0; what < row.length; what++) {
            row[what] = x.ofWell(well, what);
        }
        return Expect.row(row);
    }

    private static void ranks() {
        Expect.sentence("Tells the RANK of a WELL.");
        PoreField x = new PoreField();
        x.well(0, 0);
        x.well(0, 0);
        int before = 5;
        for (int rank : new int[] {1, 2, 8, 9, 9, 1}) {
            int due = before;
            Expect.due("rank(1, " + rank + ")", due, () -> x.rank(1, rank));
            Expect.due("ofWell(1, 3)", rank, () -> x.ofWell(1, 3));
            before = rank;
        }
        Expect.due("ofWell(0, 3) of the other one", 5, () -> x.ofWell(0, 3));
        Expect.argument("rank(0, 0)", () -> x.rank(0, 0));
        Expect.argument("rank(0, 10)", () -> x.rank(0, 10));
        // It is told of a plugged one, and of an injector, too.
        x.plug(1);
        Expect.due("rank(1, 9)", 1, () -> x.rank(1, 9));
        x.well(2, 0);
        Expect.due("rank(2, 1)", 5, () -> x.rank(2, 1));
        // It is the rank alone that is told.
        PoreField y = Fields.oneProducer(10, 50, 0, 0, 1);
        y.test(0);
        y.pass(1);
        y.test(0);
        Expect.due("rank(0, 2)", 5, () -> y.rank(0, 2));
        Expect.due("all but the rank", "[0, 0, 1, 2, 0, 4, 0, 0, 4, 0, 0, 4, 4, 1]", () -> all(y, 0));
    }

    private static void severalInOneCell() {
        Expect.sentence("Several can be in one CELL.");
        PoreField x = Fields.walled();
        x.cell(6, 10, 0, 0, 0);
        for (int w = 0; w < 6; w++) {
            int number = w;
            Expect.due("well(1, 6)", number, () -> x.well(1, 6));
            x.choke(w, 1);
        }
        x.pass(1);
        Expect.due("what all of them put in", 12, () -> x.ofCell(6, 2));
        Expect.due("many(11)", 12, () -> x.many(11));
    }

    private static void toBeTested() {
        Expect.sentence("Lets a WELL be TESTED in the next MONTH.");
        PoreField x = Fields.oneProducer(10, 50, 0, 0, 1);
        Expect.due("ofWell(0, 13)", 0, () -> x.ofWell(0, 13));
        Expect.due("test(0)", false, () -> x.test(0));
        Expect.due("test(0) again", true, () -> x.test(0));
        Expect.due("ofWell(0, 13)", 1, () -> x.ofWell(0, 13));
        Expect.due("its test ahead of the month", "[0, 0, 0]", () -> Fields.tested(x, 0));
        // 4 in the first month, 4 in the second one, 3 in the third one.
        x.pass(1);
        Expect.due("its test", "[4, 0, 0]", () -> Fields.tested(x, 0));
        Expect.due("ofWell(0, 13)", 0, () -> x.ofWell(0, 13));
        x.pass(2);
        Expect.due("its test two months on", "[4, 0, 0]", () -> Fields.tested(x, 0));
        Expect.due("test(0) two months on", false, () -> x.test(0));
        Expect.state("test of an injector", () -> {
            x.well(1, 1);
            return x.test(1);
        });
    }

    private static void theLatestTest() {
        Expect.sentence("in the latest MONTH that it was TESTED in");
        PoreField x = Fields.oneProducer(10, 20, 20, 10, 2);
        x.test(0);
        x.pass(1);
        Expect.due("its test", "[3, 3, 3]", () -> Fields.tested(x, 0));
        x.cell(0, 10, 0, 50, 0);
        x.test(0);
        x.pass(1);
        // All three are of the latest one: the oil and the gas are 0 again.
        Expect.due("its test then", "[0, 9, 0]", () -> Fields.tested(x, 0));
        x.choke(0, 0);
        x.test(0);
        x.pass(1);
        Expect.due("its test with a choke of 0", "[0, 0, 0]", () -> Fields.tested(x, 0));
    }

    private static void plugged() {
        Expect.sentence("PLUGS a WELL (its CHOKE is 0).");
        for (int choke : new int[] {0, 1, 9}) {
            PoreField x = Fields.oneProducer(10, 50, 0, 0, choke);
            Expect.due("plug(0)", choke, () -> x.plug(0));
            Expect.due("ofWell(0, 2)", 0, () -> x.ofWell(0, 2));
            Expect.due("ofWell(0, 4)", 1, () -> x.ofWell(0, 4));
            Expect.state("plug(0) again", () -> x.plug(0));
            Expect.state("choke(0, 1)", () -> x.choke(0, 1));
            Expect.due("pass(1)", 0, () -> x.pass(1));
            Expect.due("what the cell has", "[50, 0, 0]", () -> Fields.fluids(x, 0));
        }
        Expect.sentence("(also one that was PLUGGED meanwhile)");
        PoreField y = Fields.oneProducer(10, 50, 0, 0, 1);
        y.test(0);
        y.pass(1);
        y.test(0);
        y.plug(0);
        Expect.due("to be tested", 1, () -> y.ofWell(0, 13));
        Expect.due("its test until then", "[4, 0, 0]", () -> Fields.tested(y, 0));
        Expect.due("what it gave in the latest month", "[4, 0, 0]", () -> Fields.gave(y, 0));
        y.pass(1);
        Expect.due("to be tested", 0, () -> y.ofWell(0, 13));
        Expect.due("its test", "[0, 0, 0]", () -> Fields.tested(y, 0));
        Expect.due("what it gave in the latest month", "[0, 0, 0]", () -> Fields.gave(y, 0));
        Expect.due("oil that it gave ever", 4, () -> y.ofWell(0, 11));
    }

    private static void whatAWellGave() {
        Expect.sentence("8 to 10 what it GAVE in the latest MONTH (of an INJECTOR what it put in)");
        PoreField x = Fields.oneProducer(10, 20, 20, 10, 2);
        Fields.drill(x, 1, 1, 2);
        Fields.drill(x, 2, 2, 2);
        x.pass(1);
        Expect.due("the producer", "[3, 3, 3]", () -> Fields.gave(x, 0));
        Expect.due("the water injector", "[0, 4, 0]", () -> Fields.gave(x, 1));
        Expect.due("the gas injector", "[0, 0, 3]", () -> Fields.gave(x, 2));
        Expect.sentence("11 OIL that it GAVE ever");
        Expect.due("the three", "[3, 0, 0]", () -> Expect.row(x.ofWell(0, 11), x.ofWell(1, 11), x.ofWell(2, 11)));
        // Of two months in one call it is what the second one gave.
        Expect.sentence("what it GAVE in the latest MONTH");
        PoreField y = Fields.oneProducer(10, 50, 0, 0, 2);
        Expect.due("pass(2)", 16, () -> y.pass(2));
        Expect.due("the latest one", "[7, 0, 0]", () -> Fields.gave(y, 0));
        Expect.due("oil that it gave ever", 16, () -> y.ofWell(0, 11));
        // A month without anything is a month.
        y.choke(0, 0);
        y.pass(1);
        Expect.due("a month with a choke of 0", "[0, 0, 0]", () -> Fields.gave(y, 0));
        // So it is for an injector: with a choke of 0, in a cell with too much pressure, and plugged.
        PoreField z = Fields.walled();
        for (int w = 0; w < 3; w++) {
            z.cell(w, 10, 0, 15, 0);
            Fields.drill(z, 1, w, 3);
        }
        z.pass(1);
        Expect.due("what three injectors put in", "[6, 6, 6]",
                () -> Expect.row(z.ofWell(0, 9), z.ofWell(1, 9), z.ofWell(2, 9)));
        z.choke(0, 0);
        z.plug(2);
        z.pass(1);
        Expect.due("what they put in a month on", "[0, 0, 0]",
                () -> Expect.row(z.ofWell(0, 9), z.ofWell(1, 9), z.ofWell(2, 9)));
    }

    /** So much more than 99 of a fluid that all of a capacity is used: six full cells, each with a producer. */
    private static PoreField sixProducers(int fluid) {
        PoreField x = Fields.walled();
        for (int w = 0; w < 6; w++) {
            x.cell(w, 10, fluid == 0 ? 99 : 0, fluid == 1 ? 99 : 0, fluid == 2 ? 99 : 0);
            Fields.drill(x, 0, w, 9);
        }
        x.permit(99);
        return x;
    }

    private static void capacities() {
        for (int f = 0; f < 3; f++) {
            int fluid = f;
            Expect.sentence("The FIELD has CAPACITIES for the three FLUIDS (0 to 99 each; 40 at first)");
            PoreField x = sixProducers(f);
            x.pass(1);
            // Gas comes two by two here.
            Expect.due("with that at first, of " + f, 40, () -> x.many(5 + fluid));
            Expect.sentence("Tells a CAPACITY.");
            int before = 40;
            for (int capacity : new int[] {99, 98, 1, 0, 0, 99}) {
                int due = before;
                PoreField y = sixProducers(f);
                Expect.due("capacity(" + f + ", " + capacity + ")", 40, () -> y.capacity(fluid, capacity));
                Expect.due("capacity(" + f + ", " + capacity + ")", due, () -> x.capacity(fluid, capacity));
                y.pass(1);
                int most = f == 2 ? gasUpTo(capacity) : capacity;
                Expect.due("what came up of " + f + " with " + capacity, most, () -> y.many(5 + fluid));
                before = capacity;
            }
        }
        // Each is its own.
        PoreField z = new PoreField();
        z.capacity(0, 1);
        z.capacity(1, 2);
        z.capacity(2, 3);
        Expect.due("the three", "[1, 2, 3]", () -> Expect.row(z.capacity(0, 0), z.capacity(1, 0), z.capacity(2, 0)));
    }

    /** A cell of 99 that is all gas gives two by two, and all 99 by its 84 times, if so much is free. */
    private static int gasUpTo(int free) {
        return free >= 99 ? 99 : free - free % 2;
    }

    private static void permit() {
        Expect.sentence("a PERMIT to flare (0 to 99; 10 at first)");
        PoreField x = Fields.oneProducer(10, 0, 0, 99, 9);
        x.pass(1);
        Expect.due("flared with that at first", 10, () -> x.many(9));
        Expect.sentence("Tells the PERMIT.");
        int before = 10;
        for (int permit : new int[] {99, 98, 1, 0, 0, 2}) {
            int due = before;
            Expect.due("permit(" + permit + ")", due, () -> x.permit(permit));
            PoreField y = Fields.oneProducer(10, 0, 0, 99, 9);
            y.capacity(2, 99);
            y.permit(permit);
            y.pass(1);
            Expect.due("flared with " + permit, gasUpTo(permit), () -> y.many(9));
            before = permit;
        }
    }

    private static void tank() {
        Expect.sentence("a TANK (0 to 999; 300 at first) for OIL");
        PoreField x = sixProducers(0);
        x.capacity(0, 99);
        Expect.due("pass(3)", 297, () -> x.pass(3));
        Expect.due("pass(1): up to 300", 3, () -> x.pass(1));
        Expect.due("pass(1): it is full", 0, () -> x.pass(1));
        Expect.sentence("Tells how great the TANK is.");
        Expect.state("tank(299)", () -> x.tank(299));
        Expect.due("tank(300)", 300, () -> x.tank(300));
        Expect.due("pass(1) with 300", 0, () -> x.pass(1));
        Expect.due("tank(301)", 300, () -> x.tank(301));
        Expect.due("pass(1) with 301", 1, () -> x.pass(1));
        Expect.due("tank(999)", 301, () -> x.tank(999));
        x.lift(0, 300);
        Expect.state("tank(0) with 1", () -> x.tank(0));
        Expect.due("tank(1) with 1", 1, () -> x.tank(1));
        x.lift(0, 1);
        Expect.due("tank(0) with 0", 0, () -> x.tank(0));
        Expect.due("pass(1) with 0", 0, () -> x.pass(1));
        PoreField y = new PoreField();
        Expect.argument("tank(1000)", () -> y.tank(1000));
        Expect.argument("tank(-1)", () -> y.tank(-1));
        // 999 and no more.
        y.tank(999);
        y.capacity(0, 99);
        for (int w = 0; w < 6; w++) {
            Fields.drill(y, 0, w, 9);
        }
        for (int month = 0; month < 10; month++) {
            for (int w = 0; w < 6; w++) {
                y.cell(w, 10, 99, 0, 0);
            }
            y.pass(1);
        }
        Expect.due("ten months of 99", 990, () -> y.many(8));
        for (int w = 0; w < 6; w++) {
            y.cell(w, 10, 99, 0, 0);
        }
        Expect.due("the month behind these", 9, () -> y.pass(1));
        Expect.due("what the tank has", 999, () -> y.many(8));
    }

    private static void shares() {
        Expect.sentence("SHARES (of 100 together; 100, 0 and 0 at first)");
        PoreField x = new PoreField();
        Expect.due("at first", "[100, 0, 0]", () -> told(x));
        Expect.sentence("Tells the SHARES from now on (the PARTNER 2 has the rest).");
        int[][] due = {{0, 0, 100}, {0, 1, 99}, {1, 0, 99}, {0, 99, 1}, {99, 0, 1}, {0, 100, 0}, {100, 0, 0},
            {50, 50, 0}, {50, 49, 1}, {1, 99, 0}, {33, 33, 34}};
        for (int[] d : due) {
            Expect.due("shares(" + d[0] + ", " + d[1] + ")", d[2], () -> x.shares(d[0], d[1]));
            Expect.due("the shares", Expect.row(d), () -> told(x));
        }
        Expect.argument("shares(50, 51)", () -> x.shares(50, 51));
        Expect.argument("shares(-1, 0)", () -> x.shares(-1, 0));
        Expect.argument("shares(0, -1)", () -> x.shares(0, -1));
        Expect.due("the shares behind these", "[33, 33, 34]", () -> told(x));
        // From now on: what partners are entitled to by then stays.
        PoreField y = Fields.oneProducer(10, 99, 0, 0, 9);
        y.capacity(0, 10);
        y.pass(1);
        y.shares(0, 100);
        Expect.due("entitled behind shares()", "[10, 0, 0]", () -> Fields.entitled(y));
        y.pass(1);
        Expect.due("entitled a month on", "[10, 10, 0]", () -> Fields.entitled(y));
    }

    private static String told(PoreField x) {
        return Expect.row(x.ofPartner(0, 0), x.ofPartner(1, 0), x.ofPartner(2, 0));
    }

    private static void price() {
        Expect.sentence("The PRICE of OIL is 5 at first (0 to 99)");
        PoreField x = new PoreField();
        int before = 5;
        for (int price : new int[] {99, 98, 1, 0, 0, 99}) {
            int due = before;
            Expect.due("price(" + price + ")", due, () -> x.price(price));
            before = price;
        }
        Expect.argument("price(100)", () -> x.price(100));
        Expect.argument("price(-1)", () -> x.price(-1));
        Expect.due("price(5) behind these", 99, () -> x.price(5));
    }
}
