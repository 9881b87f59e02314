/** Fields and rows of answers that several tests want. */
final class Fields {
    private Fields() {
    }

    /** A field with faults everywhere, so that each cell is on its own. */
    static PoreField walled() {
        PoreField x = new PoreField();
        for (int c = 0; c < 16; c++) {
            if (c % 4 < 3) {
                x.fault(c, true, true);
            }
            if (c < 12) {
                x.fault(c, false, true);
            }
        }
        return x;
    }

    static int drill(PoreField x, int kind, int cell, int choke) {
        int well = x.well(kind, cell);
        x.choke(well, choke);
        return well;
    }

    static String fluids(PoreField x, int cell) {
        return Expect.row(x.ofCell(cell, 1), x.ofCell(cell, 2), x.ofCell(cell, 3));
    }

    static String gave(PoreField x, int well) {
        return Expect.row(x.ofWell(well, 8), x.ofWell(well, 9), x.ofWell(well, 10));
    }

    static String tested(PoreField x, int well) {
        return Expect.row(x.ofWell(well, 5), x.ofWell(well, 6), x.ofWell(well, 7));
    }

    static String booked(PoreField x) {
        return Expect.row(x.booked(0), x.booked(1), x.booked(2), x.booked(3), x.booked(4));
    }

    static String partner(PoreField x, int partner) {
        return Expect.row(x.ofPartner(partner, 0), x.ofPartner(partner, 1), x.ofPartner(partner, 2),
                x.ofPartner(partner, 3));
    }

    static String many(PoreField x) {
        int[] all = new int[15];
        for (int what = 0; what < 15; what++) {
            all[what] = x.many(what);
        }
        return Expect.row(all);
    }
}
