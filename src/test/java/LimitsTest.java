/** Promises 9 (capacity) to 13 (price): what is told of the field and its partners. */
final class LimitsTest {
    public static void main(String[] args) {
        capacities();
        permit();
        tank();
        shares();
        price();
        Expect.finish();
    }

    private static void capacities() {
        PoreField x = new PoreField();
        for (int f = 0; f < 3; f++) {
            int fluid = f;
            Expect.due("capacity(" + f + ", 99)", 40, () -> x.capacity(fluid, 99));
            Expect.due("capacity(" + f + ", " + f + ")", 99, () -> x.capacity(fluid, fluid));
        }
        Expect.due("capacity(2, 0)", 2, () -> x.capacity(2, 0));
        Expect.due("capacity(0, 0)", 0, () -> x.capacity(0, 0));
        Expect.argument("capacity(0, 100)", () -> x.capacity(0, 100));
        Expect.argument("capacity(0, -1)", () -> x.capacity(0, -1));
        Expect.bounds("capacity(3, 100)", () -> x.capacity(3, 100));
        Expect.bounds("capacity(-1, 0)", () -> x.capacity(-1, 0));
        Expect.due("capacity(1, 5) behind these", 1, () -> x.capacity(1, 5));
    }

    private static void permit() {
        PoreField x = new PoreField();
        Expect.due("permit(99)", 10, () -> x.permit(99));
        Expect.argument("permit(100)", () -> x.permit(100));
        Expect.argument("permit(-1)", () -> x.permit(-1));
        Expect.due("permit(0)", 99, () -> x.permit(0));
        Expect.due("permit(1)", 0, () -> x.permit(1));
    }

    private static void tank() {
        PoreField x = Fields.walled();
        Expect.due("tank(999)", 0, () -> x.tank(999));
        Expect.due("tank(0)", 0, () -> x.tank(0));
        Expect.argument("tank(1000)", () -> x.tank(1000));
        Expect.argument("tank(-1)", () -> x.tank(-1));
        x.tank(30);
        x.cell(0, 10, 99, 0, 0);
        Fields.drill(x, 0, 0, 2);
        // 2 * (990 - 50) / 100 is 18.
        Expect.due("pass(1)", 18, () -> x.pass(1));
        Expect.state("tank(17)", () -> x.tank(17));
        Expect.argument("tank(-1)", () -> x.tank(-1));
        Expect.due("pass(1): the tank is still one of 30", 12, () -> x.pass(1));
        Expect.due("tank(30)", 30, () -> x.tank(30));
        Expect.due("pass(1) with a full tank", 0, () -> x.pass(1));
        Expect.due("tank(31)", 30, () -> x.tank(31));
        Expect.due("pass(1)", 1, () -> x.pass(1));
        // The tank of a new field has room for 300.
        PoreField y = Fields.walled();
        y.capacity(0, 99);
        for (int c = 0; c < 6; c++) {
            y.cell(c, 10, 99, 0, 0);
            Fields.drill(y, 0, c, 9);
        }
        Expect.due("pass(4) into the tank of 300", 300, () -> y.pass(4));
        Expect.due("many(8)", 300, () -> y.many(8));
    }

    private static void shares() {
        PoreField x = new PoreField();
        Expect.due("shares(50, 30)", 20, () -> x.shares(50, 30));
        Expect.due("ofPartner(0, 0)", 50, () -> x.ofPartner(0, 0));
        Expect.due("ofPartner(1, 0)", 30, () -> x.ofPartner(1, 0));
        Expect.due("ofPartner(2, 0)", 20, () -> x.ofPartner(2, 0));
        Expect.argument("shares(-1, 50)", () -> x.shares(-1, 50));
        Expect.argument("shares(50, -1)", () -> x.shares(50, -1));
        Expect.argument("shares(50, 51)", () -> x.shares(50, 51));
        Expect.argument("shares(101, 0)", () -> x.shares(101, 0));
        Expect.argument("shares(0, 101)", () -> x.shares(0, 101));
        Expect.argument("shares(200, -150)", () -> x.shares(200, -150));
        Expect.argument("shares that wrap around", () -> x.shares(Integer.MAX_VALUE, Integer.MAX_VALUE));
        Expect.argument("shares that wrap around", () -> x.shares(Integer.MAX_VALUE, 1));
        Expect.due("ofPartner(0, 0) behind these", 50, () -> x.ofPartner(0, 0));
        Expect.due("ofPartner(1, 0) behind these", 30, () -> x.ofPartner(1, 0));
        Expect.due("shares(0, 100)", 0, () -> x.shares(0, 100));
        Expect.due("shares(100, 0)", 0, () -> x.shares(100, 0));
        Expect.due("shares(0, 0)", 100, () -> x.shares(0, 0));
    }

    private static void price() {
        PoreField x = new PoreField();
        Expect.due("price(99)", 5, () -> x.price(99));
        Expect.argument("price(100)", () -> x.price(100));
        Expect.argument("price(-1)", () -> x.price(-1));
        Expect.due("price(0)", 99, () -> x.price(0));
        Expect.due("price(1)", 0, () -> x.price(1));
    }
}
