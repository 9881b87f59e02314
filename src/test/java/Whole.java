/** How a field stands, with what is only seen by telling it anew or by going on with it: the field is used up by it. */
final class Whole {
    private final PoreField x;
    private final StringBuilder told = new StringBuilder();

    private Whole(PoreField x) {
        this.x = x;
    }

    static String of(PoreField x) {
        Whole whole = new Whole(x);
        whole.look();
        whole.tellAnew();
        whole.goOn();
        whole.fillTheTank();
        return whole.told.toString();
    }

    private void look() {
        told.append(Fields.many(x)).append(Fields.booked(x));
        for (int p = 0; p < 3; p++) {
            told.append(Fields.partner(x, p));
        }
        told.append(x.digest()).append(' ').append(x.meanPressure()).append('\n');
    }

    /** Each of these answers what was, and is told that again. */
    private void tellAnew() {
        for (int c = 0; c < 16; c++) {
            put(Fields.beside(c, true) >= 0 && wasShut(c, true) ? 1 : 0);
            put(Fields.beside(c, false) >= 0 && wasShut(c, false) ? 1 : 0);
        }
        for (int f = 0; f < 3; f++) {
            int was = x.capacity(f, 0);
            x.capacity(f, was);
            put(was);
        }
        int permit = x.permit(0);
        x.permit(permit);
        put(permit);
        int price = x.price(0);
        x.price(price);
        put(price);
    }

    private boolean wasShut(int cell, boolean isEast) {
        boolean was = x.fault(cell, isEast, false);
        x.fault(cell, isEast, was);
        return was;
    }

    private void goOn() {
        for (int turn = 0; turn < 2; turn++) {
            put(x.book());
            put(x.lift(1, 2));
            put(x.pass(1));
            look();
        }
    }

    /** The tank tells what it has, but not how great it is, until no more goes into it. */
    private void fillTheTank() {
        x.capacity(0, 99);
        if (x.many(1) < 6) {
            x.well(0, 0);
        }
        for (int turn = 0; turn < 12; turn++) {
            for (int w = 0; w < x.many(1); w++) {
                if (x.ofWell(w, 0) == 0 && x.ofWell(w, 4) == 0) {
                    x.choke(w, 9);
                    x.cell(x.ofWell(w, 1), 10, 99, 0, 0);
                }
            }
            x.pass(1);
        }
        put(x.many(8));
    }

    private void put(int answer) {
        told.append(answer).append(' ');
    }
}
