import java.math.BigInteger;

/** The sentences on what would be, on their edges; promises 23 to 25, and 27. */
final class WouldBeEdgesTest {
    public static void main(String[] args) {
        wouldGiveMonths();
        asAllStays();
        nothingIsChanged();
        theSmallestOfSeveral();
        mostOilFromAllWells();
        inThem();
        chokesAtTheEnds();
        keptBackWithoutAFault();
        keptBackBelowZero();
        keptBackAtTheRims();
        keptBackMonths();
        digestWrapsAround();
        digestSkipsPluggedWells();
        digestOfTheFaultsOfTheCell5();
        Expect.finish();
    }

    private static PoreField open() {
        PoreField x = Fields.open();
        x.test(0);
        x.tank(60);
        x.shares(50, 25);
        return x;
    }

    private static void wouldGiveMonths() {
        Expect.sentence("Returns how much OIL would come up in them.");
        // 4 4 3 3 3 2 2 2 2 2 1 1
        int[] due = {4, 8, 11, 14, 17, 19, 21, 23, 25, 27, 28, 29};
        PoreField x = Fields.oneProducer(10, 50, 0, 0, 1);
        for (int months = 1; months <= 12; months++) {
            int m = months;
            Expect.due("wouldGive(" + m + ")", due[m - 1], () -> x.wouldGive(m));
        }
        Expect.argument("wouldGive(0)", () -> x.wouldGive(0));
        Expect.argument("wouldGive(13)", () -> x.wouldGive(13));
        Expect.due("pass(12)", 29, () -> x.pass(12));
        Expect.due("wouldGive(12) without wells", 0, () -> new PoreField().wouldGive(12));
    }

    private static void asAllStays() {
        Expect.sentence("as all stays as it is");
        for (int months = 1; months <= 12; months++) {
            int m = months;
            int oil = open().pass(m);
            Expect.due("wouldGive(" + m + ")", oil, () -> open().wouldGive(m));
        }
        asTold();
        // The tank is as great as it is, and has what it has.
        for (int size = 28; size <= 30; size++) {
            PoreField x = Fields.oneProducer(10, 50, 0, 0, 1);
            x.tank(size);
            Expect.due("wouldGive(12) into a tank of " + size, Math.min(29, size), () -> x.wouldGive(12));
        }
        PoreField y = Fields.oneProducer(10, 50, 0, 0, 1);
        y.tank(4);
        y.pass(1);
        Expect.due("wouldGive(12) into a full tank", 0, () -> y.wouldGive(12));
        y.lift(0, 1);
        Expect.due("wouldGive(12) behind a ship", 1, () -> y.wouldGive(12));
    }

    /** Whatever is told counts for what would be: each of these makes another answer of it. */
    private static void asTold() {
        int plain = allFluids().wouldGive(3);
        for (int told = 0; told < 12; told++) {
            PoreField x = allFluids();
            PoreField twin = allFluids();
            tell(x, told);
            tell(twin, told);
            int number = told;
            int oil = twin.pass(3);
            Expect.due("wouldGive(3) behind what is told as " + number, oil, () -> x.wouldGive(3));
            Expect.due("what is told as " + number + " makes a difference", true, () -> oil != plain);
        }
    }

    private static PoreField allFluids() {
        PoreField x = Fields.walled();
        x.cell(0, 10, 40, 40, 15);
        x.cell(1, 10, 60, 20, 15);
        x.cell(4, 10, 90, 0, 0);
        x.permit(40);
        Fields.drill(x, 0, 0, 4);
        Fields.drill(x, 0, 1, 3);
        Fields.drill(x, 1, 0, 0);
        Fields.drill(x, 2, 15, 0);
        return x;
    }

    private static void tell(PoreField x, int what) {
        switch (what) {
            case 0: x.capacity(0, 10); break;
            case 1: x.capacity(1, 10); break;
            case 2: x.capacity(2, 10); break;
            case 3: x.permit(9); break;
            case 4: x.tank(20); break;
            case 5: x.cell(0, 20, 40, 40, 15); break;
            case 6: x.cell(0, 10, 40, 40, 16); x.cell(1, 10, 61, 20, 15); break;
            case 7: x.fault(0, true, false); break;
            case 8: x.fault(0, false, false); break;
            case 9: x.plug(1); break;
            case 10: x.choke(0, 5); break;
            default: x.cell(0, 10, 5, 0, 0); x.choke(2, 9); break;
        }
    }

    private static void nothingIsChanged() {
        Expect.sentence("what would be (nothing is changed; as all stays as it is)");
        PoreField x = open();
        x.pass(2);
        x.book();
        for (int m = 1; m <= 12; m++) {
            x.wouldGive(m);
        }
        for (int m = 1; m <= 6; m++) {
            for (int w = 0; w < 4; w++) {
                x.bestChoke(w, m);
            }
            x.keptBack(0, true, m);
            x.keptBack(5, true, m);
            x.keptBack(5, false, m);
            x.keptBack(6, false, m);
        }
        x.digest();
        PoreField twin = open();
        twin.pass(2);
        twin.book();
        Expect.due("what a well gave in the latest month", Fields.gave(twin, 1), () -> Fields.gave(x, 1));
        Expect.due("all behind these", Whole.of(twin), () -> Whole.of(x));
    }

    private static void theSmallestOfSeveral() {
        Expect.sentence("of several the smallest one");
        // 2 * 450 / 100 is 9, 3 * 450 / 100 is 13, 9 * 450 / 100 is 40: the capacity, and the least choke for it.
        int[][] due = {{0, 0}, {1, 1}, {4, 1}, {5, 2}, {9, 2}, {10, 3}, {13, 3}, {14, 4}, {36, 8}, {37, 9}, {99, 9}};
        for (int[] d : due) {
            for (int choke : new int[] {0, 3, 9}) {
                PoreField x = Fields.oneProducer(10, 50, 0, 0, choke);
                x.capacity(0, d[0]);
                Expect.due("bestChoke(0, 1) of " + choke + " with " + d[0], d[1], () -> x.bestChoke(0, 1));
                Expect.due("its choke", choke, () -> x.ofWell(0, 2));
            }
        }
        // Where none brings anything it is 0.
        PoreField y = Fields.oneProducer(40, 20, 0, 0, 7);
        Expect.due("bestChoke(0, 6) with a pressure of 50", 0, () -> y.bestChoke(0, 6));
        PoreField z = Fields.oneProducer(10, 50, 0, 0, 7);
        z.tank(0);
        Expect.due("bestChoke(0, 6) without a tank", 0, () -> z.bestChoke(0, 6));
        Fields.drill(z, 1, 9, 9);
        Expect.due("bestChoke(1, 6) of an injector in another cell", 0, () -> z.bestChoke(1, 6));
    }

    private static void mostOilFromAllWells() {
        Expect.sentence("the CHOKE of it with which most OIL would come up from all WELLS in them");
        // The first one has water only, and takes the capacity for it from the second one.
        PoreField x = Fields.walled();
        x.cell(0, 10, 0, 90, 0);
        x.cell(1, 10, 40, 40, 0);
        Fields.drill(x, 0, 0, 9);
        Fields.drill(x, 0, 1, 9);
        x.capacity(1, 30);
        Expect.due("bestChoke(0, 1) of a well with water", 0, () -> x.bestChoke(0, 1));
        // What the well itself brings is one of these: with a little oil of its own it had better be open.
        PoreField y = Fields.walled();
        y.cell(0, 10, 90, 9, 0);
        y.cell(1, 10, 10, 40, 0);
        Fields.drill(y, 0, 0, 9);
        Fields.drill(y, 0, 1, 9);
        y.capacity(0, 99);
        y.capacity(1, 8);
        Expect.due("bestChoke(0, 1) of a well with oil", 9, () -> y.bestChoke(0, 1));
    }

    private static void inThem() {
        Expect.sentence("with which most OIL would come up from all WELLS in them");
        // Water that is put in makes a pressure above 50 for the month behind: 12 of it make 102.
        PoreField x = Fields.walled();
        x.cell(0, 40, 30, 0, 0);
        Fields.drill(x, 0, 0, 4);
        Fields.drill(x, 1, 0, 0);
        Expect.due("bestChoke(1, 1)", 0, () -> x.bestChoke(1, 1));
        Expect.due("bestChoke(1, 2)", 6, () -> x.bestChoke(1, 2));
        Expect.argument("bestChoke(1, 0)", () -> x.bestChoke(1, 0));
        Expect.argument("bestChoke(1, 7)", () -> x.bestChoke(1, 7));
        // It is the sum of them: with 9 they are 40 and 4, with 5, which gives most in the second one, 22 and 11.
        PoreField z = Fields.oneProducer(10, 50, 0, 0, 5);
        Expect.due("bestChoke(0, 2)", 9, () -> z.bestChoke(0, 2));
        Expect.due("pass(1) with 5", 22, () -> z.pass(1));
        Expect.due("pass(1) with 5 again", 11, () -> z.pass(1));
        // In six months all of a little oil comes up with less than in one.
        PoreField y = Fields.oneProducer(10, 50, 0, 0, 0);
        y.capacity(0, 5);
        Expect.due("bestChoke(0, 1)", 2, () -> y.bestChoke(0, 1));
        int six = y.bestChoke(0, 6);
        Expect.due("30 in six months with the choke for six", 30, () -> givesInSix(six));
        Expect.due("30 in six months with one less", true, () -> givesInSix(six - 1) < 30);
    }

    private static int givesInSix(int choke) {
        PoreField x = Fields.oneProducer(10, 50, 0, 0, choke);
        x.capacity(0, 5);
        return x.pass(6);
    }

    private static void chokesAtTheEnds() {
        Expect.sentence("Returns the CHOKE of it");
        PoreField x = Fields.oneProducer(10, 99, 0, 0, 0);
        x.capacity(0, 99);
        Expect.due("bestChoke(0, 1): the greatest one", 9, () -> x.bestChoke(0, 1));
        // 8 * 250 / 100 is 20, and 9 * 250 / 100 is 22.
        PoreField y = Fields.oneProducer(10, 30, 0, 0, 0);
        y.capacity(0, 20);
        Expect.due("bestChoke(0, 1) with a capacity of 20", 8, () -> y.bestChoke(0, 1));
        y.capacity(0, 21);
        Expect.due("bestChoke(0, 1) with a capacity of 21", 9, () -> y.bestChoke(0, 1));
        Expect.sentence("IllegalStateException if it is PLUGGED");
        y.plug(0);
        Expect.state("bestChoke(0, 1)", () -> y.bestChoke(0, 1));
        Expect.argument("bestChoke(0, 7)", () -> y.bestChoke(0, 7));
    }

    private static void keptBackWithoutAFault() {
        Expect.sentence("0 without one");
        PoreField x = open();
        for (int c = 0; c < 16; c++) {
            int cell = c;
            for (boolean isEast : new boolean[] {true, false}) {
                if (Fields.beside(c, isEast) >= 0 && !(c == 0 && isEast) && c != 5) {
                    Expect.due("keptBack(" + c + ", " + isEast + ", 6)", 0, () -> x.keptBack(cell, isEast, 6));
                }
            }
        }
        Expect.due("many(13)", 3, () -> x.many(13));
        // And without one any more.
        PoreField y = beside(0, true, 10, 90);
        Expect.due("keptBack(0, true, 2) with one", 8, () -> y.keptBack(0, true, 2));
        y.fault(0, true, false);
        Expect.due("keptBack(0, true, 2) without one", 0, () -> y.keptBack(0, true, 2));
        Expect.argument("keptBack(0, true, 0) without one", () -> y.keptBack(0, true, 0));
        Expect.argument("keptBack(0, true, 7) without one", () -> y.keptBack(0, true, 7));
    }

    /** A producer in a cell with so much oil, and behind a fault another cell with so much. */
    private static PoreField beside(int cell, boolean isEast, int here, int there) {
        PoreField x = Fields.walled();
        x.cell(cell, 10, here, 0, 0);
        x.cell(Fields.beside(cell, isEast), 10, there, 0, 0);
        Fields.drill(x, 0, cell, 2);
        return x;
    }

    private static void keptBackBelowZero() {
        Expect.sentence("how much more OIL would come up in them without the FAULT there (it can be below 0; 0 without "
                + "one)");
        // Above 0, 0 and below 0, in the second month.
        Expect.due("90 behind the fault", 8, () -> beside(0, true, 10, 90).keptBack(0, true, 2));
        Expect.due("nothing goes through it", 0, () -> beside(0, true, 50, 41).keptBack(0, true, 2));
        Expect.due("nothing behind the fault", -7, () -> beside(0, true, 90, 0).keptBack(0, true, 2));
        // Of a place with a fault whose cells are nothing to the well.
        Expect.due("elsewhere", 0, () -> beside(0, true, 90, 0).keptBack(10, true, 6));
    }

    private static void keptBackAtTheRims() {
        Expect.sentence("IndexOutOfBoundsException if cell is not 0 to 15, or there is none beside it there");
        for (int c = 0; c < 16; c++) {
            int cell = c;
            for (boolean isEast : new boolean[] {true, false}) {
                if (Fields.beside(c, isEast) >= 0) {
                    PoreField x = beside(c, isEast, 10, 90);
                    int faults = x.many(13);
                    Expect.due("keptBack(" + c + ", " + isEast + ", 2)", 8, () -> x.keptBack(cell, isEast, 2));
                    Expect.due("many(13)", faults, () -> x.many(13));
                } else {
                    Expect.bounds("keptBack(" + c + ", " + isEast + ", 2)",
                            () -> Fields.walled().keptBack(cell, isEast, 2));
                }
            }
        }
    }

    private static void keptBackMonths() {
        Expect.sentence("Returns how much more OIL would come up in them");
        for (int months = 1; months <= 6; months++) {
            int m = months;
            int with = beside(4, false, 10, 90).pass(m);
            PoreField without = beside(4, false, 10, 90);
            without.fault(4, false, false);
            int more = without.pass(m) - with;
            Expect.due("keptBack(4, false, " + m + ")", more, () -> beside(4, false, 10, 90).keptBack(4, false, m));
        }
        Expect.due("keptBack(4, false, 1): it comes over behind the month", 0,
                () -> beside(4, false, 10, 90).keptBack(4, false, 1));
        Expect.argument("keptBack(4, false, 0)", () -> beside(4, false, 10, 90).keptBack(4, false, 0));
        Expect.argument("keptBack(4, false, 7)", () -> beside(4, false, 10, 90).keptBack(4, false, 7));
        // The tank is as it is.
        PoreField x = beside(4, false, 10, 90);
        x.tank(4);
        Expect.due("keptBack(4, false, 2) with a tank of 4", 3, () -> x.keptBack(4, false, 2));
        // With the fault 9 and 7 come up of 50, if there is room: it keeps nothing back from a tank that is full.
        int[][] due = {{4, 0}, {16, 0}, {17, 1}};
        for (int[] d : due) {
            PoreField y = beside(4, false, 50, 90);
            y.tank(d[0]);
            Expect.due("keptBack(4, false, 2) of 50 with a tank of " + d[0], d[1], () -> y.keptBack(4, false, 2));
        }
    }

    private static void digestWrapsAround() {
        Expect.sentence("then d becomes d * 31 + v, which wraps around as a 64-bit integer, for each v");
        Expect.due("digest() of a new field", 3033182947888530339L, () -> new PoreField().digest());
        PoreField x = new PoreField();
        Expect.due("digest() of a new field, reckoned", exact(x).longValue(), () -> x.digest());
        Expect.due("it does not fit 64 bits", true, () -> exact(x).bitLength() > 64);
        // With negative numbers among them: NONE, money of the field, what is kept back, what was produced.
        PoreField y = open();
        y.pass(3);
        y.book();
        y.pass(1);
        y.book();
        Expect.due("digest() of a field that is used", exact(y).longValue(), () -> y.digest());
        Expect.due("digest() again", exact(y).longValue(), () -> y.digest());
    }

    private static void digestSkipsPluggedWells() {
        Expect.sentence("and bestChoke() of 2, if it is not PLUGGED");
        PoreField x = open();
        for (int w = 3; w >= 0; w--) {
            x.plug(w);
            Expect.due("digest() with plugged wells", exact(x).longValue(), () -> x.digest());
        }
    }

    private static void digestOfTheFaultsOfTheCell5() {
        Expect.sentence("keptBack() of the CELL 5, to the EAST, then to the SOUTH, in 2");
        for (boolean isEast : new boolean[] {true, false}) {
            PoreField x = beside(5, isEast, 10, 90);
            Expect.due("in 2", 8, () -> x.keptBack(5, isEast, 2));
            Expect.due("in 3 it is another one", true, () -> x.keptBack(5, isEast, 3) != 8);
            Expect.due("the other one", 0, () -> x.keptBack(5, !isEast, 2));
            Expect.due("digest()", exact(x).longValue(), () -> x.digest());
        }
    }

    private static BigInteger exact(PoreField x) {
        BigInteger d = BigInteger.valueOf(5406);
        for (int v : Fields.digested(x)) {
            d = d.multiply(BigInteger.valueOf(31)).add(BigInteger.valueOf(v));
        }
        return d;
    }
}
