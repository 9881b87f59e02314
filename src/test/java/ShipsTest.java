/** Promises 15 (lift), 19 (ofPartner) and 26 (mayLift). */
final class ShipsTest {
    public static void main(String[] args) {
        wrongLifts();
        lifts();
        overlift();
        entitledMore();
        Expect.finish();
    }

    /** A field with so much oil in the tank, for which the partner 0 is entitled to all. */
    private static PoreField withOil(int oil) {
        PoreField x = Fields.walled();
        x.cell(0, 10, 99, 0, 0);
        Fields.drill(x, 0, 0, 9);
        x.capacity(0, oil);
        x.pass(1);
        x.capacity(0, 0);
        return x;
    }

    private static void wrongLifts() {
        PoreField x = withOil(30);
        Expect.bounds("lift(-1, 0)", () -> x.lift(-1, 0));
        Expect.bounds("lift(3, 1)", () -> x.lift(3, 1));
        Expect.argument("lift(0, 0)", () -> x.lift(0, 0));
        Expect.argument("lift(0, -1)", () -> x.lift(0, -1));
        Expect.argument("lift(0, 1000)", () -> x.lift(0, 1000));
        Expect.bounds("mayLift(-1)", () -> x.mayLift(-1));
        Expect.bounds("mayLift(3)", () -> x.mayLift(3));
        Expect.bounds("ofPartner(-1, 4)", () -> x.ofPartner(-1, 4));
        Expect.bounds("ofPartner(3, 0)", () -> x.ofPartner(3, 0));
        Expect.argument("ofPartner(0, -1)", () -> x.ofPartner(0, -1));
        Expect.argument("ofPartner(0, 4)", () -> x.ofPartner(0, 4));
        Expect.due("the tank behind these", 30, () -> x.many(8));
        Expect.due("partner 0 behind these", "[100, 30, 0, 0]", () -> Fields.partner(x, 0));
        Expect.due("lift(0, 999)", 30, () -> x.lift(0, 999));
    }

    private static void lifts() {
        PoreField x = withOil(30);
        Expect.due("lift(0, 1)", 1, () -> x.lift(0, 1));
        Expect.due("partner 0", "[100, 30, 1, 5]", () -> Fields.partner(x, 0));
        x.price(7);
        Expect.due("its money stays", "[100, 30, 1, 5]", () -> Fields.partner(x, 0));
        Expect.due("lift(0, 9)", 9, () -> x.lift(0, 9));
        Expect.due("partner 0", "[100, 30, 10, 68]", () -> Fields.partner(x, 0));
        Expect.due("many(8)", 20, () -> x.many(8));
        x.price(0);
        Expect.due("lift(0, 21)", 20, () -> x.lift(0, 21));
        Expect.due("partner 0", "[100, 30, 30, 68]", () -> Fields.partner(x, 0));
        Expect.due("lift(0, 1) from an empty tank", 0, () -> x.lift(0, 1));
        Expect.due("mayLift(0)", 0, () -> x.mayLift(0));
        Expect.due("what came up ever stays", 30, () -> x.many(5));
        Expect.due("the field has no money of it", 0, () -> x.many(12));
    }

    private static void overlift() {
        PoreField x = withOil(40);
        Expect.due("mayLift(0): what the tank has", 40, () -> x.mayLift(0));
        Expect.due("mayLift(1): what it may lift too much", 20, () -> x.mayLift(1));
        Expect.due("lift(1, 15)", 15, () -> x.lift(1, 15));
        Expect.due("mayLift(1)", 5, () -> x.mayLift(1));
        Expect.due("lift(1, 15)", 5, () -> x.lift(1, 15));
        Expect.due("lift(1, 1)", 0, () -> x.lift(1, 1));
        Expect.due("partner 1", "[0, 0, 20, 100]", () -> Fields.partner(x, 1));
        Expect.due("mayLift(2): what it may lift too much", 20, () -> x.mayLift(2));
        Expect.due("lift(2, 7)", 7, () -> x.lift(2, 7));
        Expect.due("mayLift(2): 13 in both ways", 13, () -> x.mayLift(2));
        Expect.due("mayLift(0): what the tank has", 13, () -> x.mayLift(0));
    }

    private static void entitledMore() {
        PoreField x = withOil(40);
        x.lift(1, 20);
        x.shares(0, 100);
        x.capacity(0, 6);
        x.pass(1);
        Expect.due("partner 1", "[100, 6, 20, 100]", () -> Fields.partner(x, 1));
        Expect.due("mayLift(1)", 6, () -> x.mayLift(1));
        Expect.due("partner 0", "[0, 40, 0, 0]", () -> Fields.partner(x, 0));
        Expect.due("mayLift(0)", 26, () -> x.mayLift(0));
        x.shares(0, 0);
        Expect.due("mayLift(1) without a share", 6, () -> x.mayLift(1));
    }
}
