import java.util.function.Supplier;

/** Promises 1 to 8: a new object, and what the shelves hold. */
final class ShelvesTest {
    private ShelvesTest() {
    }

    static void all() {
        Check.test("1 a new object", ShelvesTest::aNewObject);
        Check.test("2 row", ShelvesTest::row);
        Check.test("2 row, refused", ShelvesTest::rowRefused);
        Check.test("3 set", ShelvesTest::set);
        Check.test("3 set, refused", ShelvesTest::setRefused);
        Check.test("4 copy", ShelvesTest::copy);
        Check.test("4 copy within one row", ShelvesTest::copyWithin);
        Check.test("4 copy, refused", ShelvesTest::copyRefused);
        Check.test("5 element", ShelvesTest::element);
        Check.test("6 show", ShelvesTest::show);
        Check.test("6 show, refused", ShelvesTest::showRefused);
        Check.test("7 holds", ShelvesTest::holds);
        Check.test("8 says", ShelvesTest::says);
        Check.test("8 says, refused", ShelvesTest::saysRefused);
    }

    private static void aNewObject() {
        Supplier<InASackToTheRope> make = InASackToTheRope::new;
        InASackToTheRope x = make.get();
        int[] want = {0, 0, 40, 5, 3, 20, 0, 0, 1, 0};
        for (int what = 0; what < want.length; what++) {
            Check.due("status(" + what + ")", x.status(what), want[what]);
        }
        for (int what = 11; what <= 17; what++) {
            Check.due("status(" + what + ")", x.status(what), 0);
        }
        for (int s = 0; s < 8; s++) {
            Check.due("holds", x.holds(s), -1);
            Check.due("element", x.element(s, 0), 0);
        }
        Check.due("fault()", x.fault(), -1);
        Check.due("trace(0)", x.trace(0), -1);
        Check.refused(make, "comesIn(0)", y -> y.comesIn(0), -1);
        Check.refused(make, "sackOf(0, 0)", y -> y.sackOf(0, 0), -1);
        Check.refused(make, "restore()", y -> y.restore(), -6);
    }

    private static void row() {
        InASackToTheRope x = new InASackToTheRope();
        for (int sort = 0; sort < 4; sort++) {
            Check.due("row", x.row(sort, sort, 160), 1);
            Check.due("holds", x.holds(sort), 100 + sort);
            Check.due("set the last", x.set(sort, 159, 7), 1);
            Check.due("the last", x.element(sort, 159), 7);
        }
        Check.due("row of none", x.row(7, 3, 0), 1);
        Check.due("holds", x.holds(7), 103);
        x.row(0, 0, 160);
        Check.due("a new ROW is 0", x.element(0, 159), 0);
        x.child(0, 0, 1);
        x.show(1, 0);
        Check.due("row over a child", x.row(1, 1, 2), 1);
        Check.due("holds", x.holds(1), 101);
    }

    private static void rowRefused() {
        Supplier<InASackToTheRope> make = () -> {
            InASackToTheRope x = new InASackToTheRope();
            x.row(0, 2, 3);
            x.set(0, 0, 5);
            return x;
        };
        Check.refused(make, "row(-1, 4, -1)", y -> y.row(-1, 4, -1), -1);
        Check.refused(make, "row(8, 0, 1)", y -> y.row(8, 0, 1), -1);
        Check.refused(make, "row(0, 4, -1)", y -> y.row(0, 4, -1), -4);
        Check.refused(make, "row(0, 4, 161)", y -> y.row(0, 4, 161), -6);
        Check.refused(make, "row(0, -1, 1)", y -> y.row(0, -1, 1), -6);
        Check.refused(make, "row(0, 0, 161)", y -> y.row(0, 0, 161), -7);
        Check.refused(make, "row(0, 0, max)", y -> y.row(0, 0, Integer.MAX_VALUE), -7);
        Check.refused(make, "row(0, 0, min)", y -> y.row(0, 0, Integer.MIN_VALUE), -4);
    }

    private static void set() {
        InASackToTheRope x = new InASackToTheRope();
        long[] put = {127, 128, 255, 256, -129, 32767, 32768, -32769, 2147483648L, -2147483649L, Long.MIN_VALUE};
        for (int sort = 0; sort < 4; sort++) {
            x.row(sort, sort, 1);
            for (long v : put) {
                long kept = sort == 0 ? (byte) v : sort == 1 ? (short) v : sort == 2 ? (int) v : v;
                Check.due("set", x.set(sort, 0, v), 1);
                Check.due("sort " + sort + " keeps of " + v, x.element(sort, 0), kept);
            }
        }
        x.row(4, 0, 2);
        x.set(4, 0, 200);
        Check.due("bytes have a sign", x.element(4, 0), -56);
        x.row(4, 1, 2);
        x.set(4, 0, 70000);
        Check.due("shorts wrap", x.element(4, 0), 4464);
        Check.due("the other is left", x.element(4, 1), 0);
    }

    private static void setRefused() {
        Supplier<InASackToTheRope> make = () -> {
            InASackToTheRope x = new InASackToTheRope();
            x.child(0, 0, 1);
            x.show(1, 0);
            x.row(0, 3, 2);
            return x;
        };
        Check.refused(make, "set(8, 9, 1)", y -> y.set(8, 9, 1), -1);
        Check.refused(make, "set(-1, 0, 1)", y -> y.set(-1, 0, 1), -1);
        Check.refused(make, "set(1, 9, 1)", y -> y.set(1, 9, 1), -2);
        Check.refused(make, "set(2, 9, 1)", y -> y.set(2, 9, 1), -3);
        Check.refused(make, "set(0, 2, 1)", y -> y.set(0, 2, 1), -5);
        Check.refused(make, "set(0, -1, 1)", y -> y.set(0, -1, 1), -5);
    }

    private static void copy() {
        InASackToTheRope x = new InASackToTheRope();
        Check.row(x, 0, 2, 1, 2, 3, 4, 5);
        Check.row(x, 1, 2, 10, 20, 30);
        Check.due("copy", x.copy(0, 1, 2, 1, 2), 1);
        long[] want = {10, 3, 4};
        for (int i = 0; i < 3; i++) {
            Check.due("copied " + i, x.element(1, i), want[i]);
        }
        Check.due("left", x.element(0, 2), 3);
        Check.due("copy of none at the ends", x.copy(0, 1, 5, 3, 0), 1);
        Check.due("copy of all", x.copy(1, 0, 0, 2, 3), 1);
        Check.due("the last", x.element(0, 4), 4);
    }

    private static void copyWithin() {
        InASackToTheRope x = new InASackToTheRope();
        Check.row(x, 0, 3, 1, 2, 3, 4, 5);
        Check.due("copy up", x.copy(0, 0, 0, 1, 4), 1);
        long[] up = {1, 1, 2, 3, 4};
        for (int i = 0; i < 5; i++) {
            Check.due("up " + i, x.element(0, i), up[i]);
        }
        Check.due("copy down", x.copy(0, 0, 2, 0, 3), 1);
        long[] down = {2, 3, 4, 3, 4};
        for (int i = 0; i < 5; i++) {
            Check.due("down " + i, x.element(0, i), down[i]);
        }
    }

    private static void copyRefused() {
        Supplier<InASackToTheRope> make = () -> {
            InASackToTheRope x = new InASackToTheRope();
            x.child(0, 0, 1);
            x.show(1, 0);
            Check.row(x, 0, 2, 1, 2, 3);
            Check.row(x, 2, 2, 4, 5);
            Check.row(x, 3, 1, 6, 7);
            return x;
        };
        Check.refused(make, "copy(8, 1, 0, 0, -1)", y -> y.copy(8, 1, 0, 0, -1), -1);
        Check.refused(make, "copy(0, -1, 0, 0, 1)", y -> y.copy(0, -1, 0, 0, 1), -1);
        Check.refused(make, "copy(1, 0, 0, 0, -1)", y -> y.copy(1, 0, 0, 0, -1), -2);
        Check.refused(make, "copy(4, 1, 0, 0, 1)", y -> y.copy(4, 1, 0, 0, 1), -2);
        Check.refused(make, "copy(1, 4, 0, 0, 1)", y -> y.copy(1, 4, 0, 0, 1), -2);
        Check.refused(make, "copy(0, 3, 0, 0, -1)", y -> y.copy(0, 3, 0, 0, -1), -2);
        Check.refused(make, "copy(4, 0, 0, 0, -1)", y -> y.copy(4, 0, 0, 0, -1), -3);
        Check.refused(make, "copy(0, 4, 0, 0, -1)", y -> y.copy(0, 4, 0, 0, -1), -3);
        Check.refused(make, "copy(4, 5, 0, 0, 1)", y -> y.copy(4, 5, 0, 0, 1), -3);
        Check.refused(make, "copy(0, 2, 9, 0, -1)", y -> y.copy(0, 2, 9, 0, -1), -4);
        Check.refused(make, "copy(0, 2, -1, 0, 1)", y -> y.copy(0, 2, -1, 0, 1), -5);
        Check.refused(make, "copy(0, 2, 0, -1, 1)", y -> y.copy(0, 2, 0, -1, 1), -5);
        Check.refused(make, "copy(0, 2, 2, 0, 2)", y -> y.copy(0, 2, 2, 0, 2), -5);
        Check.refused(make, "copy(0, 2, 0, 1, 2)", y -> y.copy(0, 2, 0, 1, 2), -5);
        Check.refused(make, "copy(0, 2, 4, 0, 0)", y -> y.copy(0, 2, 4, 0, 0), -5);
        Check.refused(make, "copy(0, 2, 0, 3, 0)", y -> y.copy(0, 2, 0, 3, 0), -5);
        int max = Integer.MAX_VALUE;
        Check.refused(make, "copy(0, 2, max, 0, max)", y -> y.copy(0, 2, max, 0, max), -5);
        Check.refused(make, "copy(0, 2, 0, max, 1)", y -> y.copy(0, 2, 0, max, 1), -5);
    }

    private static void element() {
        InASackToTheRope x = new InASackToTheRope();
        Check.row(x, 0, 3, 5, Long.MAX_VALUE);
        x.child(0, 0, 1);
        x.show(1, 0);
        Check.free(x, "element(0, 1)", () -> x.element(0, 1), Long.MAX_VALUE);
        Check.free(x, "element(0, 2)", () -> x.element(0, 2), 0);
        Check.free(x, "element(0, -1)", () -> x.element(0, -1), 0);
        Check.free(x, "element(1, 0)", () -> x.element(1, 0), 0);
        Check.free(x, "element(2, 0)", () -> x.element(2, 0), 0);
        Check.free(x, "element(-1, 0)", () -> x.element(-1, 0), 0);
        Check.free(x, "element(8, 0)", () -> x.element(8, 0), 0);
        x.show(0, 0);
        Check.free(x, "a child has no elements", () -> x.element(0, 0), 0);
        Check.free(x, "a child has no elements", () -> x.element(0, 1), 0);
    }

    private static void show() {
        InASackToTheRope x = new InASackToTheRope();
        x.child(0, 0, 1);
        x.child(1, 0, 1);
        Check.row(x, 0, 0, 1);
        Check.due("show(0, 1)", x.show(0, 1), 1);
        Check.due("holds(0)", x.holds(0), 1);
        Check.due("show(0, 0)", x.show(0, 0), 1);
        Check.due("holds(0)", x.holds(0), 0);
        Check.due("show(0, NONE)", x.show(0, -1), 0);
        Check.due("holds(0)", x.holds(0), -1);
        Check.due("show(1, NONE)", x.show(1, -1), 0);
    }

    private static void showRefused() {
        Supplier<InASackToTheRope> make = () -> {
            InASackToTheRope x = Check.told("child 0 0 1;child 1 0 1");
            x.show(0, 1);
            return x;
        };
        Check.refused(make, "show(0, 2)", y -> y.show(0, 2), -1);
        Check.refused(make, "show(0, -2)", y -> y.show(0, -2), -1);
        Check.refused(make, "show(8, 0)", y -> y.show(8, 0), -1);
        Check.refused(make, "show(-1, -1)", y -> y.show(-1, -1), -1);
    }

    private static void holds() {
        InASackToTheRope x = new InASackToTheRope();
        x.row(3, 2, 0);
        x.child(0, 0, 1);
        x.show(4, 0);
        Check.free(x, "holds(3)", () -> x.holds(3), 102);
        Check.free(x, "holds(4)", () -> x.holds(4), 0);
        Check.free(x, "holds(5)", () -> x.holds(5), -1);
        Check.free(x, "holds(8)", () -> x.holds(8), -1);
        Check.free(x, "holds(-1)", () -> x.holds(-1), -1);
    }

    private static void says() {
        // one of each kind, a 3, LEGS 5, all in a SACK of LENGTH 7 with 2 HOLES: SLACK 2
        InASackToTheRope x = Check.told("sack 7 2;child 0 3 5;child 1 3 5;child 2 3 5;child 3 3 5;"
                + "child 4 3 5;child 5 3 5;child 6 3 5");
        // STRIDE 5 4 7 3 4 8 3; RISK of RUNNING (10 + 6 + 4) / 2, of TIPTOE (10 + 6 + 3) / 2
        int[][] due = {
            {5, 0}, {5, 1}, {5, 2}, {5, 3}, {5, 4}, {5, 5}, {5, 6},
        };
        for (int[] d : due) {
            x.show(d[1], d[1]);
            Check.due("says as HOPPER " + d[1], x.says(d[1], 0), d[0]);
        }
        Check.due("EVEN its PUFF", x.says(1, 1), 1);
        Check.due("CALM as EVEN its own PUFF", x.says(3, 1), 0);
        Check.due("CALM its PUFF", x.says(3, 3), 0);
        Check.due("LONG its STRIDE", x.says(2, 2), 7);
        Check.due("GREEDY as LONG its own STRIDE", x.says(5, 2), 8);
        Check.due("GREEDY its STRIDE", x.says(5, 5), 8);
        Check.due("RUNNING its RISK", x.says(4, 4), 10);
        Check.due("TIPTOE as RUNNING its own RISK", x.says(6, 4), 9);
        Check.due("TIPTOE its RISK", x.says(6, 6), 9);
        x.ask(3, 0);
        Check.due("RISK with all its BREATH", x.says(4, 4), 10);
    }

    private static void saysRefused() {
        Supplier<InASackToTheRope> make = () -> {
            InASackToTheRope x = Check.told("child 1 0 5;child 4 0 5;child 5 0 5");
            x.show(0, 0);
            x.show(1, 1);
            x.show(2, 2);
            Check.row(x, 3, 0, 1);
            return x;
        };
        Check.refused(make, "says(8, 0)", y -> y.says(8, 0), -1);
        Check.refused(make, "says(-1, 0)", y -> y.says(-1, 0), -1);
        Check.refused(make, "says(3, 7)", y -> y.says(3, 7), -1);
        Check.refused(make, "says(0, -1)", y -> y.says(0, -1), -1);
        Check.refused(make, "says(3, 0)", y -> y.says(3, 0), -2);
        Check.refused(make, "EVEN as CALM", y -> y.says(0, 3), -2);
        Check.refused(make, "EVEN as LONG", y -> y.says(0, 2), -2);
        Check.refused(make, "RUNNING as TIPTOE", y -> y.says(1, 6), -2);
        Check.refused(make, "GREEDY as EVEN", y -> y.says(2, 1), -2);
        Check.refused(make, "says(4, 0)", y -> y.says(4, 0), -3);
    }
}
