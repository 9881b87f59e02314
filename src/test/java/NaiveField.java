import java.util.ArrayList;
import java.util.List;

/**
 * The document once more, in its own words and with no thought of speed: numbers of times are tried one by one, and
 * what would be is done to a copy by the calls themselves. OracleTest holds PoreField against it.
 */
final class NaiveField {
    private static final class Hole {
        int kind;
        int cell;
        int choke;
        int rank = 5;
        boolean plugged;
        boolean toTest;
        long[] test = new long[3];
        long[] gave = new long[3];
        long oil;
        long allocated;

        Hole copy() {
            Hole h = new Hole();
            h.kind = kind;
            h.cell = cell;
            h.choke = choke;
            h.rank = rank;
            h.plugged = plugged;
            h.toTest = toTest;
            h.test = test.clone();
            h.gave = gave.clone();
            h.oil = oil;
            h.allocated = allocated;
            return h;
        }
    }

    private long[] room = new long[16];
    private long[][] fluid = new long[16][3];
    // Between cells a and b, a below b.
    private boolean[][] shut = new boolean[16][16];
    private List<Hole> holes = new ArrayList<>();
    private long[] capacity = {40, 40, 40};
    private long permit = 10;
    private long size = 300;
    private long tank;
    private long[] share = {100, 0, 0};
    private long[] entitled = new long[3];
    private long[] lifted = new long[3];
    private long[] money = new long[3];
    private long price = 5;
    private long now;
    private long[] up = new long[3];
    private long flared;
    private long putBack;
    private long waterIn;
    private long fieldMoney;
    private long[] booking = {0, 0, 0, 0, -1};
    private long bookings;
    private int holesAtBooking;
    private long oilAtBooking;

    NaiveField() {
        java.util.Arrays.fill(room, 40);
    }

    private NaiveField copy() {
        NaiveField n = new NaiveField();
        n.room = room.clone();
        for (int c = 0; c < 16; c++) {
            n.fluid[c] = fluid[c].clone();
            n.shut[c] = shut[c].clone();
        }
        for (Hole h : holes) {
            n.holes.add(h.copy());
        }
        n.capacity = capacity.clone();
        n.permit = permit;
        n.size = size;
        n.tank = tank;
        return n;
    }

    private static void index(boolean is) {
        if (!is) {
            throw new IndexOutOfBoundsException();
        }
    }

    private static void argument(boolean is) {
        if (!is) {
            throw new IllegalArgumentException();
        }
    }

    private static void state(boolean is) {
        if (!is) {
            throw new IllegalStateException();
        }
    }

    private static boolean in(long value, long from, long to) {
        return from <= value && value <= to;
    }

    private static int beside(int cell, boolean isEast) {
        index(in(cell, 0, 15));
        index(isEast ? cell % 4 < 3 : cell < 12);
        return isEast ? cell + 1 : cell + 4;
    }

    private Hole hole(int well) {
        index(in(well, 0, holes.size() - 1));
        return holes.get(well);
    }

    private long all(int c) {
        return fluid[c][0] + fluid[c][1] + fluid[c][2];
    }

    private long pressure(int c) {
        return 100 * all(c) / room[c];
    }

    private long[] wouldMove(int c, long a) {
        long all = all(c);
        if (all == 0) {
            return new long[3];
        }
        long times = Math.min(a, all);
        return new long[] {fluid[c][0] * times / all, fluid[c][1] * times / all,
            Math.min(fluid[c][2], fluid[c][2] * 2 * times / all)};
    }

    long cell(int c, int r, int oil, int water, int gas) {
        index(in(c, 0, 15));
        argument(in(r, 10, 90) && in(oil, 0, 99) && in(water, 0, 99) && in(gas, 0, 99));
        room[c] = r;
        fluid[c] = new long[] {oil, water, gas};
        return pressure(c);
    }

    long fault(int c, boolean isEast, boolean is) {
        int b = beside(c, isEast);
        boolean was = shut[c][b];
        shut[c][b] = is;
        return was ? 1 : 0;
    }

    long well(int kind, int c) {
        index(in(c, 0, 15));
        argument(in(kind, 0, 2));
        state(holes.size() < 6);
        Hole h = new Hole();
        h.kind = kind;
        h.cell = c;
        holes.add(h);
        return holes.size() - 1;
    }

    long choke(int well, int choke) {
        Hole h = hole(well);
        argument(in(choke, 0, 9));
        state(!h.plugged);
        int before = h.choke;
        h.choke = choke;
        return before;
    }

    long rank(int well, int rank) {
        Hole h = hole(well);
        argument(in(rank, 1, 9));
        int before = h.rank;
        h.rank = rank;
        return before;
    }

    long test(int well) {
        Hole h = hole(well);
        state(h.kind == 0 && !h.plugged);
        boolean before = h.toTest;
        h.toTest = true;
        return before ? 1 : 0;
    }

    long plug(int well) {
        Hole h = hole(well);
        state(!h.plugged);
        int before = h.choke;
        h.plugged = true;
        h.choke = 0;
        return before;
    }

    long capacity(int f, int value) {
        index(in(f, 0, 2));
        argument(in(value, 0, 99));
        long before = capacity[f];
        capacity[f] = value;
        return before;
    }

    long permit(int value) {
        argument(in(value, 0, 99));
        long before = permit;
        permit = value;
        return before;
    }

    long tank(int value) {
        argument(in(value, 0, 999));
        state(tank <= value);
        size = value;
        return tank;
    }

    long shares(int first, int second) {
        argument(first >= 0 && second >= 0 && (long) first + second <= 100);
        share = new long[] {first, second, 100 - first - second};
        return share[2];
    }

    long price(int value) {
        argument(in(value, 0, 99));
        long before = price;
        price = value;
        return before;
    }

    long pass(int months) {
        argument(in(months, 1, 24));
        return months(months);
    }

    private long months(int months) {
        long sum = 0;
        for (int m = 0; m < months; m++) {
            sum += month();
        }
        return sum;
    }

    private long month() {
        now++;
        for (Hole h : holes) {
            h.gave = new long[3];
        }
        long[] came = new long[3];
        List<Hole> order = new ArrayList<>(holes);
        order.removeIf(h -> h.kind != 0 || h.plugged);
        order.sort((a, b) -> a.rank - b.rank);
        long injectors = 0;
        for (Hole h : holes) {
            injectors += h.kind == 2 && !h.plugged ? 2 * h.choke : 0;
        }
        for (Hole h : order) {
            long wants = Math.min(all(h.cell), h.choke * Math.max(0, pressure(h.cell) - 50) / 100);
            for (long a = wants; a >= 0; a--) {
                long[] moves = wouldMove(h.cell, a);
                if (moves[0] <= capacity[0] - came[0] && moves[1] <= capacity[1] - came[1]
                        && moves[2] <= capacity[2] - came[2] && moves[0] <= size - tank
                        && moves[2] <= permit + injectors - came[2]) {
                    h.gave = moves;
                    break;
                }
            }
            for (int f = 0; f < 3; f++) {
                came[f] += h.gave[f];
                up[f] += h.gave[f];
                fluid[h.cell][f] -= h.gave[f];
            }
            h.oil += h.gave[0];
            tank += h.gave[0];
        }
        inject(came[2]);
        even();
        measure(came[0]);
        for (int p = 0; p < 3; p++) {
            entitled[p] += came[0] * share[p] / 100;
        }
        entitled[0] += came[0] - came[0] * share[0] / 100 - came[0] * share[1] / 100 - came[0] * share[2] / 100;
        return came[0];
    }

    private void inject(long gas) {
        long left = gas;
        for (Hole h : holes) {
            if (h.kind == 2 && !h.plugged) {
                h.gave[2] = Math.min(left, 2 * h.choke);
                fluid[h.cell][2] += h.gave[2];
                left -= h.gave[2];
                putBack += h.gave[2];
            }
        }
        flared += left;
        fieldMoney -= left;
        for (Hole h : holes) {
            if (h.kind == 1 && !h.plugged && pressure(h.cell) < 200) {
                h.gave[1] = 2 * h.choke;
                fluid[h.cell][1] += h.gave[1];
                waterIn += h.gave[1];
            }
        }
    }

    private void even() {
        for (int c = 0; c < 16; c++) {
            for (int b : new int[] {c % 4 < 3 ? c + 1 : -1, c < 12 ? c + 4 : -1}) {
                if (b < 0 || shut[c][b]) {
                    continue;
                }
                int from = pressure(c) > pressure(b) ? c : b;
                int to = c + b - from;
                long[] moves = wouldMove(from, (pressure(from) - pressure(to)) / 20);
                for (int f = 0; f < 3; f++) {
                    fluid[from][f] -= moves[f];
                    fluid[to][f] += moves[f];
                }
            }
        }
    }

    private void measure(long oil) {
        List<Hole> gaveSomething = new ArrayList<>(holes);
        gaveSomething.removeIf(h -> h.kind != 0 || h.gave[0] == 0 && h.gave[1] == 0 && h.gave[2] == 0);
        long tests = 0;
        for (Hole h : gaveSomething) {
            tests += h.test[0];
        }
        long left = oil;
        for (Hole h : gaveSomething) {
            long part = tests == 0 ? 0 : oil * h.test[0] / tests;
            h.allocated += part;
            left -= part;
        }
        for (int turn = 0; left > 0; turn++, left--) {
            gaveSomething.get(turn % gaveSomething.size()).allocated++;
        }
        for (Hole h : holes) {
            if (h.toTest) {
                h.test = h.gave.clone();
                h.toTest = false;
            }
        }
    }

    long lift(int p, int oil) {
        index(in(p, 0, 2));
        argument(in(oil, 1, 999));
        long much = Math.min(oil, mayLift(p));
        tank -= much;
        lifted[p] += much;
        money[p] += much * price;
        return much;
    }

    long mayLift(int p) {
        index(in(p, 0, 2));
        return Math.min(tank, entitled[p] - lifted[p] + 20);
    }

    private long reserves(int plugFrom) {
        NaiveField n = copy();
        n.size = Long.MAX_VALUE / 2;
        for (int w = plugFrom; w < n.holes.size(); w++) {
            if (!n.holes.get(w).plugged) {
                n.plug(w);
            }
        }
        return n.months(12);
    }

    long book() {
        long all = reserves(holes.size());
        long fresh = all - reserves(holesAtBooking);
        long produced = bookings == 0 ? 0 : -(up[0] - oilAtBooking);
        booking = new long[] {all, produced, fresh, all - booking[0] - produced - fresh, now};
        bookings++;
        holesAtBooking = holes.size();
        oilAtBooking = up[0];
        return all;
    }

    long ofCell(int c, int what) {
        index(in(c, 0, 15));
        argument(in(what, 0, 4));
        return new long[] {room[c], fluid[c][0], fluid[c][1], fluid[c][2], pressure(c)}[what];
    }

    long ofWell(int well, int what) {
        Hole h = hole(well);
        argument(in(what, 0, 13));
        return new long[] {h.kind, h.cell, h.choke, h.rank, h.plugged ? 1 : 0, h.test[0], h.test[1], h.test[2],
            h.gave[0], h.gave[1], h.gave[2], h.oil, h.allocated, h.toTest ? 1 : 0}[what];
    }

    long ofPartner(int p, int what) {
        index(in(p, 0, 2));
        argument(in(what, 0, 3));
        return new long[] {share[p], entitled[p], lifted[p], money[p]}[what];
    }

    long booked(int what) {
        argument(in(what, 0, 4));
        return booking[what];
    }

    long many(int what) {
        argument(in(what, 0, 14));
        long[] sum = new long[3];
        long faults = 0;
        for (int c = 0; c < 16; c++) {
            for (int f = 0; f < 3; f++) {
                sum[f] += fluid[c][f];
            }
            for (int b = 0; b < 16; b++) {
                faults += shut[c][b] ? 1 : 0;
            }
        }
        return new long[] {now, holes.size(), sum[0], sum[1], sum[2], up[0], up[1], up[2], tank, flared, putBack,
            waterIn, fieldMoney, faults, bookings}[what];
    }

    double meanPressure() {
        double sum = 0;
        for (int c = 0; c < 16; c++) {
            sum += pressure(c);
        }
        return sum / 16;
    }

    long wouldGive(int months) {
        argument(in(months, 1, 12));
        return copy().pass(months);
    }

    long bestChoke(int well, int months) {
        Hole h = hole(well);
        argument(in(months, 1, 6));
        state(!h.plugged);
        long[] oil = new long[10];
        int best = 0;
        for (int choke = 0; choke < 10; choke++) {
            NaiveField n = copy();
            n.choke(well, choke);
            oil[choke] = n.pass(months);
            best = oil[choke] > oil[best] ? choke : best;
        }
        return best;
    }

    long keptBack(int c, boolean isEast, int months) {
        int b = beside(c, isEast);
        argument(in(months, 1, 6));
        NaiveField n = copy();
        n.shut[c][b] = false;
        return n.pass(months) - copy().pass(months);
    }

    long digest() {
        long d = 5406;
        for (int i = 0; i < 15; i++) {
            d = d * 31 + many(i);
        }
        for (int i = 0; i < 80; i++) {
            d = d * 31 + ofCell(i / 5, i % 5);
        }
        for (int w = 0; w < holes.size(); w++) {
            for (int i = 0; i < 14; i++) {
                d = d * 31 + ofWell(w, i);
            }
            d = holes.get(w).plugged ? d : d * 31 + bestChoke(w, 2);
        }
        for (int p = 0; p < 3; p++) {
            for (int i = 0; i < 4; i++) {
                d = d * 31 + ofPartner(p, i);
            }
            d = d * 31 + mayLift(p);
        }
        for (int i = 0; i < 5; i++) {
            d = d * 31 + booked(i);
        }
        d = d * 31 + wouldGive(3);
        d = d * 31 + keptBack(5, true, 2);
        return d * 31 + keptBack(5, false, 2);
    }
}
