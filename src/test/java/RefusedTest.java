import java.util.HashMap;
import java.util.Map;

/**
 * What each call takes and what it refuses: from the least to the most each is taken; what is right beyond them throws
 * what the document names and changes nothing; and of several exceptions the one named first is thrown.
 */
final class RefusedTest {
    private static final String BOUNDS = "IndexOutOfBoundsException";
    private static final String ARGUMENT = "IllegalArgumentException";
    private static final String STATE = "IllegalStateException";

    private interface Call {
        Object on(PoreField x, int value);
    }

    /** The fields that a call is tried on: one as it was made, one with five wells, one with six. */
    private enum Made {
        NEW, BUSY, FULL
    }

    private static final Map<Made, String> WHOLES = new HashMap<>();

    public static void main(String[] args) {
        for (Made made : Made.values()) {
            WHOLES.put(made, Whole.of(field(made)));
            cells(made);
            limits(made);
            partners(made);
            asked(made);
        }
        wells();
        neighbours();
        moreThanSixWells();
        pluggedWells();
        noProducers();
        tankHasMore();
        sharesTogether();
        theFirstOneNamed();
        Expect.finish();
    }

    private static PoreField field(Made made) {
        PoreField x = new PoreField();
        if (made == Made.NEW) {
            return x;
        }
        tellCells(x);
        // The wells 0 to 4: of each kind one that is open, and two that are plugged, the last one to be tested.
        Fields.drill(x, 0, 0, 4);
        Fields.drill(x, 1, 9, 3);
        Fields.drill(x, 2, 1, 2);
        Fields.drill(x, 1, 6, 6);
        Fields.drill(x, 0, 5, 5);
        x.rank(0, 7);
        x.test(0);
        x.test(4);
        x.pass(3);
        x.lift(1, 3);
        x.book();
        x.pass(1);
        x.test(0);
        x.test(4);
        x.plug(4);
        x.plug(3);
        if (made == Made.FULL) {
            Fields.drill(x, 0, 10, 3);
        }
        return x;
    }

    private static void tellCells(PoreField x) {
        x.cell(0, 20, 60, 10, 10);
        x.cell(1, 10, 50, 20, 5);
        x.cell(5, 40, 80, 0, 30);
        x.cell(9, 30, 20, 90, 0);
        x.cell(10, 15, 70, 20, 20);
        x.fault(0, true, true);
        x.fault(5, true, true);
        x.fault(5, false, true);
        x.fault(11, false, true);
        x.capacity(0, 35);
        x.capacity(1, 30);
        x.capacity(2, 50);
        x.permit(12);
        x.tank(500);
        x.shares(40, 35);
        x.price(7);
    }

    private static int wellsOf(Made made) {
        return made == Made.NEW ? 0 : made == Made.BUSY ? 5 : 6;
    }

    // ---- how a number is tried

    private static void takes(String sentence, Made made, int least, int most, String thrown, Call call) {
        Expect.sentence(sentence);
        for (int value : new int[] {least, least + 1, most - 1, most}) {
            Expect.due(value + " on a field " + made, "taken", () -> taken(made, value, call));
        }
        for (int value : new int[] {least - 1, most + 1, Integer.MIN_VALUE, Integer.MAX_VALUE}) {
            refuses(made, thrown, value, call);
        }
    }

    private static void refuses(Made made, String thrown, int value, Call call) {
        PoreField x = field(made);
        Expect.due(value + " on a field " + made, thrown, () -> call.on(x, value));
        Expect.due("all behind " + value + " on a field " + made, WHOLES.get(made), () -> Whole.of(x));
    }

    // ---- what is not in its bounds

    private static void cells(Made made) {
        String cell = "IndexOutOfBoundsException if cell is not 0 to 15";
        takes(cell, made, 0, 15, BOUNDS, (x, v) -> x.cell(v, 40, 1, 2, 3));
        takes(cell, made, 0, 15, BOUNDS, (x, v) -> x.ofCell(v, 1));
        if (made != Made.FULL) {
            takes(cell, made, 0, 15, BOUNDS, (x, v) -> x.well(0, v));
            takes("if kind is not 0 to 2", made, 0, 2, ARGUMENT, (x, v) -> x.well(v, 3));
        }
        takes("if room is not 10 to 90", made, 10, 90, ARGUMENT, (x, v) -> x.cell(5, v, 1, 2, 3));
        String fluids = "or oil, water or gas not 0 to 99";
        takes(fluids, made, 0, 99, ARGUMENT, (x, v) -> x.cell(5, 55, v, 2, 3));
        takes(fluids, made, 0, 99, ARGUMENT, (x, v) -> x.cell(5, 55, 1, v, 3));
        takes(fluids, made, 0, 99, ARGUMENT, (x, v) -> x.cell(5, 55, 1, 2, v));
        takes("if what is not 0 to 4", made, 0, 4, ARGUMENT, (x, v) -> x.ofCell(0, v));
    }

    private static void limits(Made made) {
        takes("if fluid is not 0 to 2", made, 0, 2, BOUNDS, (x, v) -> x.capacity(v, 50));
        for (int f = 0; f < 3; f++) {
            int fluid = f;
            takes("if capacity is not 0 to 99", made, 0, 99, ARGUMENT, (x, v) -> x.capacity(fluid, v));
        }
        takes("if permit is not 0 to 99", made, 0, 99, ARGUMENT, (x, v) -> x.permit(v));
        takes("if price is not 0 to 99", made, 0, 99, ARGUMENT, (x, v) -> x.price(v));
        takes("if one is below 0", made, 0, 60, ARGUMENT, (x, v) -> x.shares(v, 40));
        takes("if one is below 0", made, 0, 60, ARGUMENT, (x, v) -> x.shares(40, v));
        takes("if months is not 1 to 24", made, 1, 24, ARGUMENT, (x, v) -> x.pass(v));
    }

    private static void partners(Made made) {
        String partner = "if partner is not 0 to 2";
        takes(partner, made, 0, 2, BOUNDS, (x, v) -> x.lift(v, 1));
        takes(partner, made, 0, 2, BOUNDS, (x, v) -> x.ofPartner(v, 1));
        takes(partner, made, 0, 2, BOUNDS, (x, v) -> x.mayLift(v));
        takes("if oil is not 1 to 999", made, 1, 999, ARGUMENT, (x, v) -> x.lift(0, v));
        takes("if what is not 0 to 3", made, 0, 3, ARGUMENT, (x, v) -> x.ofPartner(2, v));
    }

    private static void asked(Made made) {
        takes("if what is not 0 to 4", made, 0, 4, ARGUMENT, (x, v) -> x.booked(v));
        takes("if what is not 0 to 14", made, 0, 14, ARGUMENT, (x, v) -> x.many(v));
        takes("if months is not 1 to 12", made, 1, 12, ARGUMENT, (x, v) -> x.wouldGive(v));
        String months = "if months is not 1 to 6";
        // With a fault there and without one.
        takes(months, made, 1, 6, ARGUMENT, (x, v) -> x.keptBack(5, true, v));
        takes(months, made, 1, 6, ARGUMENT, (x, v) -> x.keptBack(14, true, v));
        if (made != Made.NEW) {
            takes(months, made, 1, 6, ARGUMENT, (x, v) -> x.bestChoke(0, v));
            takes("if what is not 0 to 13", made, 0, 13, ARGUMENT, (x, v) -> x.ofWell(0, v));
            takes("if choke is not 0 to 9", made, 0, 9, ARGUMENT, (x, v) -> x.choke(0, v));
            takes("if rank is not 1 to 9", made, 1, 9, ARGUMENT, (x, v) -> x.rank(0, v));
            takes("if rank is not 1 to 9", made, 1, 9, ARGUMENT, (x, v) -> x.rank(4, v));
        }
    }

    private static void wells() {
        for (Made made : Made.values()) {
            noSuchWell(made, (x, v) -> x.choke(v, 1), false);
            noSuchWell(made, (x, v) -> x.rank(v, 1), true);
            noSuchWell(made, (x, v) -> x.test(v), false);
            noSuchWell(made, (x, v) -> x.plug(v), false);
            noSuchWell(made, (x, v) -> x.ofWell(v, 1), true);
            noSuchWell(made, (x, v) -> x.bestChoke(v, 1), false);
        }
    }

    private static void noSuchWell(Made made, Call call, boolean isForPluggedOnes) {
        Expect.sentence("IndexOutOfBoundsException if there is no such WELL");
        int count = wellsOf(made);
        if (count > 0) {
            // The last one of a field BUSY is plugged, the first one and the last one of a field FULL are not.
            Expect.due("0 on a field " + made, "taken", () -> taken(made, 0, call));
            if (isForPluggedOnes || made == Made.FULL) {
                Expect.due("the last one on a field " + made, "taken", () -> taken(made, count - 1, call));
            }
        }
        for (int value : new int[] {-1, count, count + 1, 16, Integer.MIN_VALUE, Integer.MAX_VALUE}) {
            refuses(made, BOUNDS, value, call);
        }
    }

    private static String taken(Made made, int value, Call call) {
        call.on(field(made), value);
        return "taken";
    }

    private static void neighbours() {
        Expect.sentence("if cell is not 0 to 15, or there is none beside it there");
        for (Made made : Made.values()) {
            for (boolean isEast : new boolean[] {true, false}) {
                for (int cell = -5; cell <= 20; cell++) {
                    neighbour(made, cell, (x, v) -> x.fault(v, isEast, true), isEast);
                    neighbour(made, cell, (x, v) -> x.fault(v, isEast, false), isEast);
                    neighbour(made, cell, (x, v) -> x.keptBack(v, isEast, 1), isEast);
                }
                for (int cell : new int[] {Integer.MIN_VALUE, Integer.MAX_VALUE, Integer.MAX_VALUE - 3}) {
                    neighbour(made, cell, (x, v) -> x.fault(v, isEast, true), isEast);
                    neighbour(made, cell, (x, v) -> x.keptBack(v, isEast, 1), isEast);
                }
            }
        }
    }

    private static void neighbour(Made made, int cell, Call call, boolean isEast) {
        if (cell >= 0 && cell <= 15 && Fields.beside(cell, isEast) >= 0) {
            Expect.due(cell + (isEast ? " east" : " south"), "taken", () -> taken(made, cell, call));
        } else {
            refuses(made, BOUNDS, cell, call);
        }
    }

    // ---- what the state rules out

    private static void moreThanSixWells() {
        Expect.sentence("IllegalStateException if there were 6");
        Expect.due("the sixth one", 5, () -> field(Made.BUSY).well(0, 0));
        for (int kind = 0; kind <= 2; kind++) {
            refuses(Made.FULL, STATE, kind, (x, v) -> x.well(v, 0));
        }
    }

    private static void pluggedWells() {
        Expect.sentence("IllegalStateException if it is PLUGGED");
        for (Made made : new Made[] {Made.BUSY, Made.FULL}) {
            for (int well = 3; well <= 4; well++) {
                refuses(made, STATE, well, (x, v) -> x.choke(v, 0));
                refuses(made, STATE, well, (x, v) -> x.choke(v, 9));
                refuses(made, STATE, well, (x, v) -> x.plug(v));
                refuses(made, STATE, well, (x, v) -> x.bestChoke(v, 1));
            }
            for (int well = 0; well <= 2; well++) {
                int open = well;
                Expect.due("choke(" + open + ", 0)", "taken", () -> taken(made, open, (x, v) -> x.choke(v, 0)));
                Expect.due("plug(" + open + ")", "taken", () -> taken(made, open, (x, v) -> x.plug(v)));
                Expect.due("bestChoke(" + open + ", 1)", "taken", () -> taken(made, open, (x, v) -> x.bestChoke(v, 1)));
            }
        }
    }

    private static void noProducers() {
        Expect.sentence("IllegalStateException if it is no PRODUCER, or PLUGGED");
        Expect.due("test(0) of a producer that is open", "taken", () -> taken(Made.BUSY, 0, (x, v) -> x.test(v)));
        refuses(Made.BUSY, STATE, 1, (x, v) -> x.test(v));
        refuses(Made.BUSY, STATE, 2, (x, v) -> x.test(v));
        // An injector that is plugged, and a producer that is.
        refuses(Made.BUSY, STATE, 3, (x, v) -> x.test(v));
        refuses(Made.BUSY, STATE, 4, (x, v) -> x.test(v));
    }

    private static void tankHasMore() {
        for (Made made : new Made[] {Made.BUSY, Made.FULL}) {
            int has = field(made).many(8);
            Expect.sentence("IllegalStateException if it has more");
            Expect.due("the tank has some", true, () -> has > 1);
            refuses(made, STATE, has - 1, (x, v) -> x.tank(v));
            refuses(made, STATE, 0, (x, v) -> x.tank(v));
            for (int size : new int[] {has, has + 1, 998, 999}) {
                Expect.due("tank(" + size + ")", has, () -> field(made).tank(size));
            }
            Expect.sentence("IllegalArgumentException if size is not 0 to 999");
            for (int size : new int[] {-1, 1000, Integer.MIN_VALUE, Integer.MAX_VALUE}) {
                refuses(made, ARGUMENT, size, (x, v) -> x.tank(v));
            }
        }
        takes("if size is not 0 to 999", Made.NEW, 0, 999, ARGUMENT, (x, v) -> x.tank(v));
    }

    private static void sharesTogether() {
        Expect.sentence("if one is below 0, or both are more than 100 together");
        for (Made made : Made.values()) {
            for (int first : new int[] {0, 1, 50, 99, 100}) {
                Expect.due("shares of 99", 1, () -> field(made).shares(Math.min(first, 99), 99 - Math.min(first, 99)));
                Expect.due("shares of 100", 0, () -> field(made).shares(first, 100 - first));
                refuses(made, ARGUMENT, 101 - first, (x, v) -> x.shares(first, v));
                refuses(made, ARGUMENT, 101 - first, (x, v) -> x.shares(v, first));
            }
            // Not more than 100 together, but one is below 0.
            refuses(made, ARGUMENT, -1, (x, v) -> x.shares(v, 101));
            refuses(made, ARGUMENT, -1, (x, v) -> x.shares(101, v));
            refuses(made, ARGUMENT, -1, (x, v) -> x.shares(v, v));
            // Together these wrap around to what is below 100.
            refuses(made, ARGUMENT, Integer.MAX_VALUE, (x, v) -> x.shares(v, v));
            refuses(made, ARGUMENT, Integer.MAX_VALUE, (x, v) -> x.shares(v, 1));
            refuses(made, ARGUMENT, Integer.MAX_VALUE, (x, v) -> x.shares(1, v));
            refuses(made, ARGUMENT, Integer.MIN_VALUE, (x, v) -> x.shares(v, v));
        }
    }

    // ---- several at once

    private static void theFirstOneNamed() {
        Expect.sentence("If several exceptions apply, the one that is named first is thrown.");
        for (Made made : Made.values()) {
            int none = wellsOf(made);
            refuses(made, BOUNDS, 16, (x, v) -> x.cell(v, 9, 100, -1, 100));
            refuses(made, BOUNDS, 16, (x, v) -> x.well(3, v));
            refuses(made, BOUNDS, none, (x, v) -> x.choke(v, 10));
            refuses(made, BOUNDS, none, (x, v) -> x.rank(v, 0));
            refuses(made, BOUNDS, 3, (x, v) -> x.capacity(v, 100));
            refuses(made, BOUNDS, 3, (x, v) -> x.lift(v, 0));
            refuses(made, BOUNDS, 16, (x, v) -> x.ofCell(v, 5));
            refuses(made, BOUNDS, none, (x, v) -> x.ofWell(v, 14));
            refuses(made, BOUNDS, 3, (x, v) -> x.ofPartner(v, 4));
            refuses(made, BOUNDS, none, (x, v) -> x.bestChoke(v, 7));
            refuses(made, BOUNDS, 3, (x, v) -> x.keptBack(v, true, 0));
            refuses(made, BOUNDS, 12, (x, v) -> x.keptBack(v, false, 7));
        }
        refuses(Made.FULL, BOUNDS, 16, (x, v) -> x.well(0, v));
        refuses(Made.FULL, ARGUMENT, 3, (x, v) -> x.well(v, 0));
        refuses(Made.BUSY, ARGUMENT, 3, (x, v) -> x.choke(v, 10));
        refuses(Made.BUSY, ARGUMENT, 3, (x, v) -> x.bestChoke(v, 7));
        // What the tank has is more than this, too.
        refuses(Made.BUSY, ARGUMENT, -1, (x, v) -> x.tank(v));
    }
}
