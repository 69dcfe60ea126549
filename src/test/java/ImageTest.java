import java.util.function.Supplier;

/** Promises 39 to 41: the image, and the status. */
final class ImageTest {
    private ImageTest() {
    }

    static void all() {
        Check.test("39 image", ImageTest::image);
        Check.test("40 restore", ImageTest::restore);
        Check.test("40 restore, the shelves", ImageTest::shelves);
        Check.test("40 restore, what the image doesn't have", ImageTest::notInTheImage);
        Check.test("40 restore, refused", ImageTest::restoreRefused);
        Check.test("41 status", ImageTest::status);
        Check.test("41 status, refusals", ImageTest::refusals);
    }

    private static void image() {
        InASackToTheRope x = new InASackToTheRope();
        Check.due("of none", x.image(), 0);
        x.child(0, 0, 5);
        Check.due("restore()", x.restore(), 0);
        Check.due("children", x.status(0), 0);
        x.child(0, 0, 5);
        x.child(1, 0, 5);
        Check.due("of two", x.image(), 2);
        x.child(2, 0, 5);
        Check.due("restore()", x.restore(), 2);
        Check.due("of two still", x.restore(), 2);
    }

    private static void restore() {
        InASackToTheRope x = Check.told("sack 5 1;child 0 1 5;child 3 2 4;ahead 1 9;way 50;up 6;rope 1;wind 30");
        x.roll(true);
        x.seed(9);
        x.race();
        String before = Check.state(x);
        Check.due("image()", x.image(), 2);
        Check.tell(x, "sack 7 2;child 5 3 3;wears 0 1;ahead 0 7;ahead 1 0;way 9;up 9;rope 9;wind 9");
        x.roll(false);
        x.summer(3, 0);
        x.seed(5);
        Check.holds("all is other", !before.equals(Check.state(x)));
        Check.due("restore()", x.restore(), 2);
        Check.holds("all is as it was", before.equals(Check.state(x)));
        Check.due("the next child", x.child(6, 0, 1), 2);
        Check.due("is a new one", x.childOf(2, 8) + x.childOf(2, 3) + x.childOf(2, 4), 0);
        Check.due("the next SACK", x.sack(3, 3), 1);
        Check.due("the image stays", x.restore(), 2);
        Check.holds("all is as it was", before.equals(Check.state(x)));
    }

    private static void shelves() {
        InASackToTheRope x = Check.told("child 0 0 5;child 0 0 5");
        x.show(0, 0);
        x.show(1, 1);
        Check.row(x, 2, 2, 5);
        x.image();
        x.child(0, 0, 5);
        x.show(0, 2);
        x.show(1, 0);
        x.show(3, 1);
        Check.row(x, 2, 2, 6, 7);
        x.show(4, 2);
        x.restore();
        int[] want = {-1, 0, 102, 1, -1};
        for (int s = 0; s < want.length; s++) {
            Check.due("holds(" + s + ")", x.holds(s), want[s]);
        }
        Check.due("ROWS stay", x.element(2, 1), 7);
        Check.due("a new child", x.child(0, 0, 5), 2);
        Check.due("is on no SHELF", x.holds(0), -1);
    }

    private static void notInTheImage() {
        InASackToTheRope x = Check.told("child 0 0 5");
        x.image();
        x.comesIn(9);
        x.act(0, 0, 1);
        Check.text(x, 0, "up");
        x.field(0);
        x.restore();
        Check.due("REFUSALS -1", x.status(11), 1);
        Check.due("REFUSALS -6", x.status(16), 1);
        Check.due("the FAULT", x.fault(), 2);
        Check.due("THE TRACE", x.trace(0), 10);
        Check.due("its number", x.status(9), 1);
    }

    private static void restoreRefused() {
        Supplier<InASackToTheRope> make = () -> Check.told("child 0 0 5");
        Check.refused(make, "restore()", y -> y.restore(), -6);
        InASackToTheRope x = make.get();
        x.image();
        Check.free(x, "restore()", x::restore, 1);
    }

    private static void status() {
        InASackToTheRope x = Check.told("sack 5 1;sack 5 1;child 6 1 5;child 3 2 4;child 0 0 1;"
                + "way 50;up 6;rope 1;wind 30");
        x.roll(true);
        x.summer(4, 0);
        x.seed(-77);
        x.act(0, 2, 5);
        int[] want = {3, 2, 50, 6, 1, 30, 1, 4, -77, 10};
        for (int what = 0; what < want.length; what++) {
            int w = what;
            Check.free(x, "status(" + what + ")", () -> x.status(w), want[what]);
        }
        int[] none = {-1, 10, 18, 100, Integer.MAX_VALUE, Integer.MIN_VALUE};
        for (int what : none) {
            Check.free(x, "status(" + what + ")", () -> x.status(what), -1);
        }
    }

    private static void refusals() {
        InASackToTheRope x = Check.told("child 0 0 5");
        x.show(0, 0);
        Check.row(x, 2, 2, 1);
        x.comesIn(1);
        x.start(0, 1);
        x.set(0, 0, 1);
        x.judge(0, 0);
        x.judge(0, 0);
        x.field(1);
        x.judge(1, 0);
        x.row(1, 0, -1);
        x.judge(2, -1);
        x.judge(2, 2);
        x.wins(2);
        x.ask(4, 0);
        x.legs(0, -1);
        x.row(1, 0, 161);
        int[] want = {2, 3, 2, 2, 2, 2, 1};
        for (int i = 0; i < want.length; i++) {
            Check.due("status(" + (11 + i) + ")", x.status(11 + i), want[i]);
        }
    }
}
