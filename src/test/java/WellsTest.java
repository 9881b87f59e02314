/** Promises 4 (well) to 8 (plug) and 18 (ofWell), as far as no month goes by. */
final class WellsTest {
    public static void main(String[] args) {
        drilling();
        chokes();
        ranks();
        tests();
        plugs();
        ofWell();
        Expect.finish();
    }

    private static void drilling() {
        PoreField x = new PoreField();
        Expect.bounds("well(3, -1): the first exception named", () -> x.well(3, -1));
        Expect.bounds("well(0, 16)", () -> x.well(0, 16));
        Expect.argument("well(-1, 0)", () -> x.well(-1, 0));
        Expect.argument("well(3, 0)", () -> x.well(3, 0));
        Expect.due("many(1)", 0, () -> x.many(1));
        for (int w = 0; w < 6; w++) {
            int number = w;
            Expect.due("well " + w, number, () -> x.well(number % 3, 15 - number));
        }
        Expect.due("many(1)", 6, () -> x.many(1));
        Expect.state("well(0, 0) with six", () -> x.well(0, 0));
        Expect.argument("well(3, 0) with six", () -> x.well(3, 0));
        Expect.bounds("well(0, 16) with six", () -> x.well(0, 16));
        Expect.due("many(1)", 6, () -> x.many(1));
        x.plug(2);
        Expect.state("well(0, 0) with six, one plugged", () -> x.well(0, 0));
        Expect.due("ofWell(5, 0)", 2, () -> x.ofWell(5, 0));
        Expect.due("ofWell(5, 1)", 10, () -> x.ofWell(5, 1));
        PoreField y = new PoreField();
        y.well(0, 7);
        Expect.due("a second well in one cell", 1, () -> y.well(0, 7));
    }

    private static void chokes() {
        PoreField x = new PoreField();
        Expect.bounds("choke(0, 10) without wells", () -> x.choke(0, 10));
        x.well(0, 0);
        Expect.due("choke(0, 9)", 0, () -> x.choke(0, 9));
        Expect.due("choke(0, 0)", 9, () -> x.choke(0, 0));
        Expect.argument("choke(0, 10)", () -> x.choke(0, 10));
        Expect.argument("choke(0, -1)", () -> x.choke(0, -1));
        Expect.bounds("choke(1, 1)", () -> x.choke(1, 1));
        Expect.bounds("choke(-1, 1)", () -> x.choke(-1, 1));
        x.choke(0, 4);
        x.plug(0);
        Expect.state("choke(0, 1) of a plugged one", () -> x.choke(0, 1));
        Expect.argument("choke(0, 10) of a plugged one", () -> x.choke(0, 10));
        Expect.due("ofWell(0, 2)", 0, () -> x.ofWell(0, 2));
    }

    private static void ranks() {
        PoreField x = new PoreField();
        Expect.bounds("rank(0, 0) without wells", () -> x.rank(0, 0));
        x.well(1, 0);
        Expect.due("rank(0, 1)", 5, () -> x.rank(0, 1));
        Expect.due("rank(0, 9)", 1, () -> x.rank(0, 9));
        Expect.argument("rank(0, 0)", () -> x.rank(0, 0));
        Expect.argument("rank(0, 10)", () -> x.rank(0, 10));
        Expect.bounds("rank(1, 1)", () -> x.rank(1, 1));
        Expect.bounds("rank(-1, 1)", () -> x.rank(-1, 1));
        x.plug(0);
        Expect.due("rank(0, 2) of a plugged one", 9, () -> x.rank(0, 2));
        Expect.due("ofWell(0, 3)", 2, () -> x.ofWell(0, 3));
    }

    private static void tests() {
        PoreField x = new PoreField();
        Expect.bounds("test(0) without wells", () -> x.test(0));
        x.well(0, 0);
        x.well(1, 0);
        x.well(2, 0);
        Expect.due("test(0)", false, () -> x.test(0));
        Expect.due("test(0) again", true, () -> x.test(0));
        Expect.state("test(1) of a water injector", () -> x.test(1));
        Expect.state("test(2) of a gas injector", () -> x.test(2));
        Expect.due("ofWell(1, 13)", 0, () -> x.ofWell(1, 13));
        Expect.bounds("test(3)", () -> x.test(3));
        Expect.bounds("test(-1)", () -> x.test(-1));
        x.plug(0);
        Expect.state("test(0) of a plugged one", () -> x.test(0));
        Expect.due("ofWell(0, 13) of the plugged one", 1, () -> x.ofWell(0, 13));
        x.pass(1);
        Expect.state("test(0) of a plugged one, the month behind", () -> x.test(0));
        Expect.due("ofWell(0, 13) the month behind", 0, () -> x.ofWell(0, 13));
    }

    private static void plugs() {
        PoreField x = new PoreField();
        Expect.bounds("plug(0) without wells", () -> x.plug(0));
        x.well(2, 3);
        x.choke(0, 7);
        Expect.due("ofWell(0, 4)", 0, () -> x.ofWell(0, 4));
        Expect.due("plug(0)", 7, () -> x.plug(0));
        Expect.due("ofWell(0, 4)", 1, () -> x.ofWell(0, 4));
        Expect.due("ofWell(0, 2)", 0, () -> x.ofWell(0, 2));
        Expect.state("plug(0) again", () -> x.plug(0));
        Expect.bounds("plug(1)", () -> x.plug(1));
        Expect.bounds("plug(-1)", () -> x.plug(-1));
        x.well(0, 3);
        Expect.due("plug(1) that was never choked", 0, () -> x.plug(1));
    }

    private static void ofWell() {
        PoreField x = new PoreField();
        Expect.bounds("ofWell(0, 14) without wells", () -> x.ofWell(0, 14));
        x.well(1, 13);
        x.choke(0, 3);
        x.rank(0, 8);
        int[] due = {1, 13, 3, 8, 0, 0, 0, 0, 0, 0, 0, 0, 0, 0};
        for (int what = 0; what < 14; what++) {
            int asked = what;
            Expect.due("ofWell(0, " + what + ")", due[what], () -> x.ofWell(0, asked));
        }
        Expect.argument("ofWell(0, -1)", () -> x.ofWell(0, -1));
        Expect.argument("ofWell(0, 14)", () -> x.ofWell(0, 14));
        Expect.bounds("ofWell(1, 0)", () -> x.ofWell(1, 0));
        Expect.bounds("ofWell(-1, 0)", () -> x.ofWell(-1, 0));
    }
}
