/** A field under the ground: its cells, wells, months, partners and reserves, as the document says. */
public final class PoreField {
    private static final int NONE = -1;

    private static final int OIL = 0;
    private static final int WATER = 1;
    private static final int GAS = 2;
    private static final int FLUIDS = 3;

    private static final int ROW = 4;
    private static final int CELLS = 16;

    private static final int PRODUCER = 0;
    private static final int WATER_INJECTOR = 1;
    private static final int GAS_INJECTOR = 2;
    private static final int MOST_WELLS = 6;
    private static final int MOST_CHOKE = 9;
    private static final int MOST_RANK = 9;

    private static final int PARTNERS = 3;
    private static final int OVERLIFT = 20;

    private static final int RESERVE_MONTHS = 12;
    // Far above what the capacity lets up in the months of a reserve.
    private static final int ENDLESS_TANK = 1_000_000;

    private final Ground ground = new Ground();
    // Whatever would be is tried out here, so that nothing is changed and no call makes objects.
    private final Ground trial = new Ground();
    private final WellLog[] logs = new WellLog[MOST_WELLS];
    private final Partner[] partners = new Partner[PARTNERS];
    private final Booking booking = new Booking();
    private final int[] cameUpEver = new int[FLUIDS];
    private int now;
    private int price = 5;
    private int flaredEver;
    private int putBackEver;
    private int waterInEver;

    public PoreField() {
        for (int w = 0; w < MOST_WELLS; w++) {
            logs[w] = new WellLog();
        }
        for (int p = 0; p < PARTNERS; p++) {
            partners[p] = new Partner();
        }
        partners[0].share = 100;
    }

    // ---- what is told

    public int cell(int cell, int room, int oil, int water, int gas)
            throws IndexOutOfBoundsException, IllegalArgumentException {
        needIndex(cell, CELLS);
        needWithin(room, 10, 90);
        needWithin(oil, 0, 99);
        needWithin(water, 0, 99);
        needWithin(gas, 0, 99);
        Cell told = ground.cells[cell];
        told.room = room;
        told.fluids[OIL] = oil;
        told.fluids[WATER] = water;
        told.fluids[GAS] = gas;
        return told.pressure();
    }

    public boolean fault(int cell, boolean isEast, boolean is) throws IndexOutOfBoundsException {
        needNeighbour(cell, isEast);
        Cell told = ground.cells[cell];
        boolean was = told.isShut(isEast);
        told.shut(isEast, is);
        return was;
    }

    public int well(int kind, int cell)
            throws IndexOutOfBoundsException, IllegalArgumentException, IllegalStateException {
        needIndex(cell, CELLS);
        needWithin(kind, PRODUCER, GAS_INJECTOR);
        if (ground.drilled >= MOST_WELLS) {
            throw new IllegalStateException("there are six wells");
        }
        int number = ground.drilled;
        ground.wells[number].kind = kind;
        ground.wells[number].cell = cell;
        ground.drilled = number + 1;
        return number;
    }

    public int choke(int well, int choke)
            throws IndexOutOfBoundsException, IllegalArgumentException, IllegalStateException {
        needIndex(well, ground.drilled);
        needWithin(choke, 0, MOST_CHOKE);
        needOpen(well);
        int before = ground.wells[well].choke;
        ground.wells[well].choke = choke;
        return before;
    }

    public int rank(int well, int rank) throws IndexOutOfBoundsException, IllegalArgumentException {
        needIndex(well, ground.drilled);
        needWithin(rank, 1, MOST_RANK);
        int before = ground.wells[well].rank;
        ground.wells[well].rank = rank;
        return before;
    }

    public boolean test(int well) throws IndexOutOfBoundsException, IllegalStateException {
        needIndex(well, ground.drilled);
        needOpen(well);
        if (ground.wells[well].kind != PRODUCER) {
            throw new IllegalStateException("the well is no producer");
        }
        boolean was = logs[well].isToTest;
        logs[well].isToTest = true;
        return was;
    }

    public int plug(int well) throws IndexOutOfBoundsException, IllegalStateException {
        needIndex(well, ground.drilled);
        needOpen(well);
        int before = ground.wells[well].choke;
        ground.wells[well].choke = 0;
        logs[well].isPlugged = true;
        return before;
    }

    public int capacity(int fluid, int capacity) throws IndexOutOfBoundsException, IllegalArgumentException {
        needIndex(fluid, FLUIDS);
        needWithin(capacity, 0, 99);
        int before = ground.capacity[fluid];
        ground.capacity[fluid] = capacity;
        return before;
    }

    public int permit(int permit) throws IllegalArgumentException {
        needWithin(permit, 0, 99);
        int before = ground.permit;
        ground.permit = permit;
        return before;
    }

    public int tank(int size) throws IllegalArgumentException, IllegalStateException {
        needWithin(size, 0, 999);
        if (ground.tankHas > size) {
            throw new IllegalStateException("the tank has more");
        }
        ground.tankSize = size;
        return ground.tankHas;
    }

    public int shares(int first, int second) throws IllegalArgumentException {
        needWithin(first, 0, 100);
        // Not first + second <= 100: that sum could wrap around.
        needWithin(second, 0, 100 - first);
        partners[0].share = first;
        partners[1].share = second;
        partners[2].share = 100 - first - second;
        return partners[2].share;
    }

    public int price(int price) throws IllegalArgumentException {
        needWithin(price, 0, 99);
        int before = this.price;
        this.price = price;
        return before;
    }

    // ---- what is done

    public int pass(int months) throws IllegalArgumentException {
        needWithin(months, 1, 24);
        int oil = 0;
        for (int m = 0; m < months; m++) {
            oil += ground.passMonth();
            now++;
            countMonth();
            allocate(ground.cameUp[OIL]);
            keepTests();
            entitle(ground.cameUp[OIL]);
        }
        return oil;
    }

    public int lift(int partner, int oil) throws IndexOutOfBoundsException, IllegalArgumentException {
        needIndex(partner, PARTNERS);
        needWithin(oil, 1, 999);
        int lifted = Math.min(oil, mayLift(partner));
        ground.tankHas -= lifted;
        partners[partner].lifted += lifted;
        partners[partner].money += lifted * price;
        return lifted;
    }

    public int book() {
        int reserves = reservesOf(ground.drilled);
        int fresh = reserves - reservesOf(booking.wells);
        int produced = booking.count == 0 ? 0 : booking.oil - cameUpEver[OIL];
        booking.revised = reserves - booking.reserves - produced - fresh;
        booking.reserves = reserves;
        booking.produced = produced;
        booking.fresh = fresh;
        booking.at = now;
        booking.wells = ground.drilled;
        booking.oil = cameUpEver[OIL];
        booking.count++;
        return reserves;
    }

    // ---- what one asks

    public int ofCell(int cell, int what) throws IndexOutOfBoundsException, IllegalArgumentException {
        needIndex(cell, CELLS);
        needWithin(what, 0, 4);
        Cell asked = ground.cells[cell];
        if (what == 0) {
            return asked.room;
        }
        return what == 4 ? asked.pressure() : asked.fluids[what - 1];
    }

    public int ofWell(int well, int what) throws IndexOutOfBoundsException, IllegalArgumentException {
        needIndex(well, ground.drilled);
        needWithin(what, 0, 13);
        Well asked = ground.wells[well];
        WellLog log = logs[well];
        switch (what) {
            case 0:
                return asked.kind;
            case 1:
                return asked.cell;
            case 2:
                return asked.choke;
            case 3:
                return asked.rank;
            case 4:
                return log.isPlugged ? 1 : 0;
            case 5:
            case 6:
            case 7:
                return log.test[what - 5];
            case 8:
            case 9:
            case 10:
                return asked.gave[what - 8];
            case 11:
                return log.oilEver;
            case 12:
                return log.allocatedEver;
            default:
                return log.isToTest ? 1 : 0;
        }
    }

    public int ofPartner(int partner, int what) throws IndexOutOfBoundsException, IllegalArgumentException {
        needIndex(partner, PARTNERS);
        needWithin(what, 0, 3);
        Partner asked = partners[partner];
        switch (what) {
            case 0:
                return asked.share;
            case 1:
                return asked.entitled;
            case 2:
                return asked.lifted;
            default:
                return asked.money;
        }
    }

    public int booked(int what) throws IllegalArgumentException {
        needWithin(what, 0, 4);
        switch (what) {
            case 0:
                return booking.reserves;
            case 1:
                return booking.produced;
            case 2:
                return booking.fresh;
            case 3:
                return booking.revised;
            default:
                return booking.at;
        }
    }

    public int many(int what) throws IllegalArgumentException {
        needWithin(what, 0, 14);
        switch (what) {
            case 0:
                return now;
            case 1:
                return ground.drilled;
            case 2:
            case 3:
            case 4:
                return ground.inAllCells(what - 2);
            case 5:
            case 6:
            case 7:
                return cameUpEver[what - 5];
            case 8:
                return ground.tankHas;
            case 9:
                return flaredEver;
            case 10:
                return putBackEver;
            case 11:
                return waterInEver;
            case 12:
                // The field's money changes by what is flared and by nothing else.
                return -flaredEver;
            case 13:
                return ground.faults();
            default:
                return booking.count;
        }
    }

    public double meanPressure() {
        int sum = 0;
        for (int c = 0; c < CELLS; c++) {
            sum += ground.cells[c].pressure();
        }
        return (double) sum / CELLS;
    }

    // ---- what would be

    public int wouldGive(int months) throws IllegalArgumentException {
        needWithin(months, 1, 12);
        trial.take(ground);
        return trial.passMonths(months);
    }

    public int bestChoke(int well, int months)
            throws IndexOutOfBoundsException, IllegalArgumentException, IllegalStateException {
        needIndex(well, ground.drilled);
        needWithin(months, 1, 6);
        needOpen(well);
        int best = 0;
        int most = -1;
        for (int choke = 0; choke <= MOST_CHOKE; choke++) {
            trial.take(ground);
            trial.wells[well].choke = choke;
            int oil = trial.passMonths(months);
            if (oil > most) {
                most = oil;
                best = choke;
            }
        }
        return best;
    }

    public int keptBack(int cell, boolean isEast, int months)
            throws IndexOutOfBoundsException, IllegalArgumentException {
        needNeighbour(cell, isEast);
        needWithin(months, 1, 6);
        if (!ground.cells[cell].isShut(isEast)) {
            return 0;
        }
        trial.take(ground);
        int with = trial.passMonths(months);
        trial.take(ground);
        trial.cells[cell].shut(isEast, false);
        return trial.passMonths(months) - with;
    }

    public int mayLift(int partner) throws IndexOutOfBoundsException {
        needIndex(partner, PARTNERS);
        Partner asked = partners[partner];
        return Math.min(ground.tankHas, asked.entitled - asked.lifted + OVERLIFT);
    }

    public long digest() {
        long d = 5406;
        for (int what = 0; what <= 14; what++) {
            d = d * 31 + many(what);
        }
        for (int c = 0; c < CELLS; c++) {
            for (int what = 0; what <= 4; what++) {
                d = d * 31 + ofCell(c, what);
            }
        }
        for (int w = 0; w < ground.drilled; w++) {
            for (int what = 0; what <= 13; what++) {
                d = d * 31 + ofWell(w, what);
            }
            if (!logs[w].isPlugged) {
                d = d * 31 + bestChoke(w, 2);
            }
        }
        for (int p = 0; p < PARTNERS; p++) {
            for (int what = 0; what <= 3; what++) {
                d = d * 31 + ofPartner(p, what);
            }
            d = d * 31 + mayLift(p);
        }
        for (int what = 0; what <= 4; what++) {
            d = d * 31 + booked(what);
        }
        d = d * 31 + wouldGive(3);
        d = d * 31 + keptBack(5, true, 2);
        return d * 31 + keptBack(5, false, 2);
    }

    // ---- what a call needs

    private static void needIndex(int index, int count) {
        if (index < 0 || index >= count) {
            throw new IndexOutOfBoundsException("there is none of this number");
        }
    }

    private static void needNeighbour(int cell, boolean isEast) {
        needIndex(cell, CELLS);
        if (neighbour(cell, isEast) == NONE) {
            throw new IndexOutOfBoundsException("there is no cell beside it there");
        }
    }

    private static void needWithin(int value, int least, int most) {
        if (value < least || value > most) {
            throw new IllegalArgumentException("a number is out of its bounds");
        }
    }

    private void needOpen(int well) {
        if (logs[well].isPlugged) {
            throw new IllegalStateException("the well is plugged");
        }
    }

    private static int neighbour(int cell, boolean isEast) {
        if (isEast) {
            return cell % ROW == ROW - 1 ? NONE : cell + 1;
        }
        return cell + ROW >= CELLS ? NONE : cell + ROW;
    }

    // ---- the books of a month

    private void countMonth() {
        for (int f = 0; f < FLUIDS; f++) {
            cameUpEver[f] += ground.cameUp[f];
        }
        flaredEver += ground.flared;
        putBackEver += ground.putBack;
        waterInEver += ground.waterIn;
        for (int w = 0; w < ground.drilled; w++) {
            if (ground.wells[w].kind == PRODUCER) {
                logs[w].oilEver += ground.wells[w].gave[OIL];
            }
        }
    }

    private void allocate(int oil) {
        int tested = 0;
        for (int w = 0; w < ground.drilled; w++) {
            if (ground.wells[w].hasProduced()) {
                tested += logs[w].test[OIL];
            }
        }
        int left = oil;
        for (int w = 0; w < ground.drilled && tested > 0; w++) {
            if (ground.wells[w].hasProduced()) {
                int part = oil * logs[w].test[OIL] / tested;
                logs[w].allocatedEver += part;
                left -= part;
            }
        }
        allocateOneByOne(left);
    }

    private void allocateOneByOne(int oil) {
        int left = oil;
        // Where there is oil, a producer gave it: a round takes one at least.
        for (int round = 0; round < oil && left > 0; round++) {
            for (int w = 0; w < ground.drilled && left > 0; w++) {
                if (ground.wells[w].hasProduced()) {
                    logs[w].allocatedEver++;
                    left--;
                }
            }
        }
    }

    private void keepTests() {
        for (int w = 0; w < ground.drilled; w++) {
            if (logs[w].isToTest) {
                System.arraycopy(ground.wells[w].gave, 0, logs[w].test, 0, FLUIDS);
                logs[w].isToTest = false;
            }
        }
    }

    private void entitle(int oil) {
        int left = oil;
        for (int p = 0; p < PARTNERS; p++) {
            int part = oil * partners[p].share / 100;
            partners[p].entitled += part;
            left -= part;
        }
        partners[0].entitled += left;
    }

    /** The reserves, if the wells from this number on were plugged now. */
    private int reservesOf(int wells) {
        trial.take(ground);
        trial.tankSize = ENDLESS_TANK;
        for (int w = wells; w < trial.drilled; w++) {
            trial.wells[w].choke = 0;
        }
        return trial.passMonths(RESERVE_MONTHS);
    }

    /** All on which it depends what the months bring up, and what the latest month did. */
    private static final class Ground {
        final Cell[] cells = new Cell[CELLS];
        final Well[] wells = new Well[MOST_WELLS];
        int drilled;
        final int[] capacity = new int[FLUIDS];
        int permit = 10;
        int tankSize = 300;
        int tankHas;
        final int[] cameUp = new int[FLUIDS];
        int gasOutlets;
        int flared;
        int putBack;
        int waterIn;

        Ground() {
            for (int c = 0; c < CELLS; c++) {
                cells[c] = new Cell();
            }
            for (int w = 0; w < MOST_WELLS; w++) {
                wells[w] = new Well();
            }
            for (int f = 0; f < FLUIDS; f++) {
                capacity[f] = 40;
            }
        }

        /** Takes over from another one all on which the next months depend. */
        void take(Ground other) {
            for (int c = 0; c < CELLS; c++) {
                cells[c].take(other.cells[c]);
            }
            for (int w = 0; w < MOST_WELLS; w++) {
                wells[w].take(other.wells[w]);
            }
            drilled = other.drilled;
            System.arraycopy(other.capacity, 0, capacity, 0, FLUIDS);
            permit = other.permit;
            tankSize = other.tankSize;
            tankHas = other.tankHas;
        }

        int inAllCells(int fluid) {
            int sum = 0;
            for (int c = 0; c < CELLS; c++) {
                sum += cells[c].fluids[fluid];
            }
            return sum;
        }

        int faults() {
            int count = 0;
            for (int c = 0; c < CELLS; c++) {
                count += cells[c].isShut(true) ? 1 : 0;
                count += cells[c].isShut(false) ? 1 : 0;
            }
            return count;
        }

        /** Returns the oil that comes up in so many months. */
        int passMonths(int months) {
            int oil = 0;
            for (int m = 0; m < months; m++) {
                oil += passMonth();
            }
            return oil;
        }

        /** Returns the oil that comes up in the month. A plugged well needs no word here: its choke is 0. */
        int passMonth() {
            startMonth();
            for (int rank = 1; rank <= MOST_RANK; rank++) {
                for (int w = 0; w < drilled; w++) {
                    if (wells[w].kind == PRODUCER && wells[w].rank == rank) {
                        produce(wells[w]);
                    }
                }
            }
            putGasBack();
            putWaterIn();
            for (int c = 0; c < CELLS; c++) {
                evenOut(c, true);
                evenOut(c, false);
            }
            return cameUp[OIL];
        }

        private void startMonth() {
            for (int f = 0; f < FLUIDS; f++) {
                cameUp[f] = 0;
            }
            putBack = 0;
            waterIn = 0;
            gasOutlets = permit;
            for (int w = 0; w < drilled; w++) {
                wells[w].forgetMonth();
                if (wells[w].kind == GAS_INJECTOR) {
                    gasOutlets += 2 * wells[w].choke;
                }
            }
        }

        private void produce(Well well) {
            Cell cell = cells[well.cell];
            int above = Math.max(0, cell.pressure() - 50);
            int times = well.choke * above / 100;
            for (int f = 0; f < FLUIDS; f++) {
                times = Math.min(times, cell.mostTimes(f, mayComeUp(f)));
            }
            cell.moveOut(times, well.gave);
            for (int f = 0; f < FLUIDS; f++) {
                cameUp[f] += well.gave[f];
            }
            tankHas += well.gave[OIL];
        }

        private int mayComeUp(int fluid) {
            int left = capacity[fluid] - cameUp[fluid];
            if (fluid == OIL) {
                return Math.min(left, tankSize - tankHas);
            }
            return fluid == GAS ? Math.min(left, gasOutlets - cameUp[GAS]) : left;
        }

        private void putGasBack() {
            int left = cameUp[GAS];
            for (int w = 0; w < drilled; w++) {
                if (wells[w].kind == GAS_INJECTOR) {
                    int put = Math.min(left, 2 * wells[w].choke);
                    putIn(wells[w], GAS, put);
                    left -= put;
                    putBack += put;
                }
            }
            flared = left;
        }

        private void putWaterIn() {
            for (int w = 0; w < drilled; w++) {
                if (wells[w].kind == WATER_INJECTOR && cells[wells[w].cell].pressure() < 200) {
                    int put = 2 * wells[w].choke;
                    putIn(wells[w], WATER, put);
                    waterIn += put;
                }
            }
        }

        private void putIn(Well well, int fluid, int put) {
            cells[well.cell].fluids[fluid] += put;
            well.gave[fluid] = put;
        }

        private void evenOut(int number, boolean isEast) {
            int beside = neighbour(number, isEast);
            if (beside == NONE || cells[number].isShut(isEast)) {
                return;
            }
            Cell one = cells[number];
            Cell other = cells[beside];
            int difference = one.pressure() - other.pressure();
            if (difference > 0) {
                one.moveOut(difference / 20, other.fluids);
            } else {
                other.moveOut(-difference / 20, one.fluids);
            }
        }
    }

    private static final class Cell {
        // 10 to 90 always, so that it can divide.
        int room = 40;
        final int[] fluids = new int[FLUIDS];
        private boolean isShutEast;
        private boolean isShutSouth;

        void take(Cell other) {
            room = other.room;
            System.arraycopy(other.fluids, 0, fluids, 0, FLUIDS);
            isShutEast = other.isShutEast;
            isShutSouth = other.isShutSouth;
        }

        boolean isShut(boolean isEast) {
            return isEast ? isShutEast : isShutSouth;
        }

        void shut(boolean isEast, boolean is) {
            if (isEast) {
                isShutEast = is;
            } else {
                isShutSouth = is;
            }
        }

        int all() {
            return fluids[OIL] + fluids[WATER] + fluids[GAS];
        }

        int pressure() {
            return 100 * all() / room;
        }

        /** How fast a fluid goes: gas twice as fast as the others. Long, as it is multiplied then. */
        private long flow(int fluid) {
            return fluid == GAS ? 2L * fluids[fluid] : fluids[fluid];
        }

        /** The greatest number of times, up to all, for which no more than so much of a fluid would move out. */
        int mostTimes(int fluid, int left) {
            if (fluids[fluid] <= 0 || fluids[fluid] <= left) {
                return all();
            }
            // flow * times / all, rounded down, is above left just from flow * times = (left + 1) * all on.
            return (int) (((left + 1L) * all() - 1) / flow(fluid));
        }

        void moveOut(int times, int[] into) {
            int all = all();
            if (all <= 0) {
                return;
            }
            for (int f = 0; f < FLUIDS; f++) {
                int moved = (int) Math.min(fluids[f], flow(f) * Math.min(times, all) / all);
                fluids[f] -= moved;
                into[f] += moved;
            }
        }
    }

    /** A well, as far as the ground feels it. */
    private static final class Well {
        int kind;
        int cell;
        int choke;
        int rank = 5;
        // Of the latest month; of an injector what it put in.
        final int[] gave = new int[FLUIDS];

        void take(Well other) {
            kind = other.kind;
            cell = other.cell;
            choke = other.choke;
            rank = other.rank;
        }

        void forgetMonth() {
            for (int f = 0; f < FLUIDS; f++) {
                gave[f] = 0;
            }
        }

        boolean hasProduced() {
            return kind == PRODUCER && gave[OIL] + gave[WATER] + gave[GAS] > 0;
        }
    }

    /** What is known of a well above the ground. */
    private static final class WellLog {
        boolean isPlugged;
        boolean isToTest;
        final int[] test = new int[FLUIDS];
        int oilEver;
        int allocatedEver;
    }

    private static final class Partner {
        int share;
        int entitled;
        int lifted;
        int money;
    }

    /** The last booking, and how the wells and the oil stood at it. */
    private static final class Booking {
        int reserves;
        int produced;
        int fresh;
        int revised;
        int at = NONE;
        int wells;
        int oil;
        int count;
    }
}
