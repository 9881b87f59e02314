import java.util.ArrayList;
import java.util.List;

/** Fields and rows of answers that several tests want. */
final class Fields {
    private Fields() {
    }

    /** A field with faults everywhere, so that each cell is on its own. */
    static PoreField walled() {
        PoreField x = new PoreField();
        for (int c = 0; c < 16; c++) {
            if (c % 4 < 3) {
                x.fault(c, true, true);
            }
            if (c < 12) {
                x.fault(c, false, true);
            }
        }
        return x;
    }

    /** Rooms of 10 and faults everywhere; just the one cell has something, which is oil. */
    static PoreField oilIn(int cell, int oil) {
        PoreField x = walled();
        for (int c = 0; c < 16; c++) {
            x.cell(c, 10, c == cell ? oil : 0, 0, 0);
        }
        return x;
    }

    /** The cell 0 on its own, with a producer in it, which is the well 0. */
    static PoreField oneProducer(int room, int oil, int water, int gas, int choke) {
        PoreField x = walled();
        x.cell(0, room, oil, water, gas);
        drill(x, 0, 0, choke);
        return x;
    }

    /** Two producers, a water injector and a gas injector, all at work, and faults at the cells 0 and 5. */
    static PoreField open() {
        PoreField x = new PoreField();
        x.cell(0, 20, 60, 10, 10);
        x.cell(1, 10, 50, 20, 5);
        x.cell(5, 40, 80, 0, 30);
        x.cell(9, 30, 20, 90, 0);
        x.fault(0, true, true);
        x.fault(5, true, true);
        x.fault(5, false, true);
        drill(x, 0, 0, 4);
        drill(x, 0, 5, 6);
        drill(x, 1, 9, 2);
        drill(x, 2, 1, 3);
        return x;
    }

    /** The one beside a cell, by the rows of the document; -1, if there is none. */
    static int beside(int cell, boolean isEast) {
        int[] east = {1, 2, 3, -1, 5, 6, 7, -1, 9, 10, 11, -1, 13, 14, 15, -1};
        int[] south = {4, 5, 6, 7, 8, 9, 10, 11, 12, 13, 14, 15, -1, -1, -1, -1};
        return isEast ? east[cell] : south[cell];
    }

    static int drill(PoreField x, int kind, int cell, int choke) {
        int well = x.well(kind, cell);
        x.choke(well, choke);
        return well;
    }

    static String fluids(PoreField x, int cell) {
        return Expect.row(x.ofCell(cell, 1), x.ofCell(cell, 2), x.ofCell(cell, 3));
    }

    static String gave(PoreField x, int well) {
        return Expect.row(x.ofWell(well, 8), x.ofWell(well, 9), x.ofWell(well, 10));
    }

    static String tested(PoreField x, int well) {
        return Expect.row(x.ofWell(well, 5), x.ofWell(well, 6), x.ofWell(well, 7));
    }

    static String allocated(PoreField x) {
        int[] row = new int[x.many(1)];
        for (int w = 0; w < row.length; w++) {
            row[w] = x.ofWell(w, 12);
        }
        return Expect.row(row);
    }

    static String entitled(PoreField x) {
        return Expect.row(x.ofPartner(0, 1), x.ofPartner(1, 1), x.ofPartner(2, 1));
    }

    static String booked(PoreField x) {
        return Expect.row(x.booked(0), x.booked(1), x.booked(2), x.booked(3), x.booked(4));
    }

    static String partner(PoreField x, int partner) {
        return Expect.row(x.ofPartner(partner, 0), x.ofPartner(partner, 1), x.ofPartner(partner, 2),
                x.ofPartner(partner, 3));
    }

    static String many(PoreField x) {
        int[] all = new int[15];
        for (int what = 0; what < 15; what++) {
            all[what] = x.many(what);
        }
        return Expect.row(all);
    }

    /** All answers that digest() is made of, in its order. */
    static List<Integer> digested(PoreField x) {
        List<Integer> all = new ArrayList<>();
        for (int what = 0; what <= 14; what++) {
            all.add(x.many(what));
        }
        for (int c = 0; c <= 15; c++) {
            for (int what = 0; what <= 4; what++) {
                all.add(x.ofCell(c, what));
            }
        }
        for (int w = 0; w < x.many(1); w++) {
            for (int what = 0; what <= 13; what++) {
                all.add(x.ofWell(w, what));
            }
            if (x.ofWell(w, 4) == 0) {
                all.add(x.bestChoke(w, 2));
            }
        }
        for (int p = 0; p <= 2; p++) {
            for (int what = 0; what <= 3; what++) {
                all.add(x.ofPartner(p, what));
            }
            all.add(x.mayLift(p));
        }
        for (int what = 0; what <= 4; what++) {
            all.add(x.booked(what));
        }
        all.add(x.wouldGive(3));
        all.add(x.keptBack(5, true, 2));
        all.add(x.keptBack(5, false, 2));
        return all;
    }
}
