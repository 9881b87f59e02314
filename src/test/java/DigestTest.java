/** Promise 27 (digest), put together from the other answers. */
final class DigestTest {
    public static void main(String[] args) {
        Expect.due("digest() of a new field", 3033182947888530339L, () -> new PoreField().digest());
        PoreField x = new PoreField();
        told(x);
        x.cell(5, 20, 70, 10, 10);
        x.cell(6, 10, 60, 0, 0);
        x.cell(9, 10, 10, 60, 0);
        x.fault(5, true, true);
        x.fault(5, false, true);
        Fields.drill(x, 0, 5, 7);
        Fields.drill(x, 0, 9, 3);
        Fields.drill(x, 2, 0, 4);
        Fields.drill(x, 1, 2, 4);
        told(x);
        x.test(0);
        x.shares(40, 35);
        x.book();
        x.pass(3);
        told(x);
        x.plug(1);
        x.lift(2, 3);
        x.price(50);
        x.lift(1, 3);
        x.book();
        x.pass(1);
        told(x);
        x.cell(6, 10, 99, 99, 99);
        told(x);
        // Here the best choke of the injector is another one for three months than for two.
        PoreField y = Fields.walled();
        y.cell(0, 40, 10, 0, 0);
        Fields.drill(y, 0, 0, 8);
        Fields.drill(y, 1, 0, 0);
        Expect.due("bestChoke(1, 2)", 0, () -> y.bestChoke(1, 2));
        Expect.due("bestChoke(1, 3)", 9, () -> y.bestChoke(1, 3));
        told(y);
        Expect.finish();
    }

    private static void told(PoreField x) {
        long want = put(x);
        Expect.due("digest()", want, () -> x.digest());
        Expect.due("digest() again", want, () -> x.digest());
    }

    private static long put(PoreField x) {
        long d = 5406;
        for (int v : Fields.digested(x)) {
            d = d * 31 + v;
        }
        return d;
    }
}
