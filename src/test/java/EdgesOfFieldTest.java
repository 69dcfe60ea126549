import java.util.function.Supplier;

/** Terms 1, the field: each sentence's least and most, and what is next to them, by calls and by texts. */
final class EdgesOfFieldTest {
    private static final Supplier<InASackToTheRope> NEW = InASackToTheRope::new;
    private static final Supplier<InASackToTheRope> ONE = () -> Check.told("child 0 0 1");

    private EdgesOfFieldTest() {
    }

    static void all() {
        Check.test("terms 1: children have numbers from 0 on, 8 at most", EdgesOfFieldTest::children);
        Check.test("terms 1: a KIND is 0 to 6", EdgesOfFieldTest::kind);
        Check.test("terms 1: each KIND is under another, HOPPER under none", EdgesOfFieldTest::under);
        Check.test("terms 1: a is 0 to 9", EdgesOfFieldTest::a);
        Check.test("terms 1: LEGS are 1 to 9", EdgesOfFieldTest::legs);
        Check.test("terms 1: SACK is his own number at first, if there is such a SACK by then",
                EdgesOfFieldTest::ownSack);
        Check.test("terms 1: SACK is else 0, without SACKS too", EdgesOfFieldTest::elseSack);
        Check.test("terms 1: AHEAD is 0 to 99 feet", EdgesOfFieldTest::ahead);
        Check.test("terms 1: AHEAD is 0 at first", EdgesOfFieldTest::aheadAtFirst);
        Check.test("terms 1: SACKS have numbers from 0 on, 8 at most", EdgesOfFieldTest::sacks);
        Check.test("terms 1: LENGTH is 1 to 9", EdgesOfFieldTest::length);
        Check.test("terms 1: HOLES are 0 to 9", EdgesOfFieldTest::holes);
        Check.test("terms 1: WAY is 1 to 200 feet, 40 at first", () -> term(0, "way ", 1, 200, 40));
        Check.test("terms 1: UP is 1 to 20 seconds, 5 at first", () -> term(1, "up ", 1, 20, 5));
        Check.test("terms 1: ROPE is 0 to 9, 3 at first", () -> term(2, "rope ", 0, 9, 3));
        Check.test("terms 1: WIND is 0 to 60, 20 at first", () -> term(3, "wind ", 0, 60, 20));
    }

    private static void children() {
        InASackToTheRope x = new InASackToTheRope();
        for (int c = 0; c < 8; c++) {
            Check.due("child " + c, x.child(c % 7, c, c + 1), c);
            Check.due("children", x.status(0), c + 1);
        }
        Check.due("LEGS of the first", x.childOf(0, 2), 1);
        Check.due("LEGS of the eighth", x.childOf(7, 2), 8);
        Check.refused(Edges::full, "the ninth", y -> y.child(0, 0, 1), -7);
        Check.refused(Edges::full, "of a ninth", y -> y.comesIn(8), -1);
        Check.fault("child 0 0 1", Edges.EIGHT_CHILDREN, 84);
        Check.due("eight by a text", Check.told(Edges.EIGHT_CHILDREN).status(0), 8);
    }

    private static void kind() {
        for (int kind : new int[] {0, 6}) {
            InASackToTheRope x = NEW.get();
            Check.due("KIND " + kind, x.child(kind, 0, 1), 0);
            Check.due("KIND", x.childOf(0, 0), kind);
        }
        Edges.left(NEW, "KIND", 0, 6, (x, v) -> x.child(v, 0, 1), -1);
        Edges.number("", "child ", " 0 1", 0, 6, x -> x.childOf(0, 0));
    }

    private static void under() {
        int[] above = {-1, 0, 0, 1, 0, 2, 4};
        InASackToTheRope x = Edges.made("child 0 0 1;child 1 0 1;child 2 0 1;child 3 0 1;child 4 0 1;"
                + "child 5 0 1;child 6 0 1");
        for (int kind = 0; kind < 7; kind++) {
            x.show(0, kind);
            for (int wanted = 0; wanted < 7; wanted++) {
                boolean is = wanted == kind || wanted == above[kind] || wanted == 0;
                Check.holds(kind + " taken for " + wanted, is == (x.says(0, wanted) >= 0));
            }
        }
        // 7 by 7, less 7 themselves, 6 under HOPPER, 3 more under another
        Check.due("REFUSALS -2", x.status(12), 49 - 7 - 6 - 3);
    }

    private static void a() {
        Edges.bounds(NEW, "a", 0, 9, (x, v) -> x.child(5, v, 1), x -> x.childOf(0, 1));
        Edges.number("", "child 5 ", " 1", 0, 9, x -> x.childOf(0, 1));
    }

    private static void legs() {
        Edges.bounds(NEW, "LEGS", 1, 9, (x, v) -> x.child(0, 0, v), x -> x.childOf(0, 2));
        Edges.number("", "child 0 0 ", "", 1, 9, x -> x.childOf(0, 2));
    }

    private static void ownSack() {
        InASackToTheRope x = NEW.get();
        x.sack(5, 0);
        x.child(0, 0, 5);
        Check.due("the only SACK", x.childOf(0, 3), 0);
        x.sack(5, 0);
        x.child(0, 0, 5);
        Check.due("the last SACK", x.childOf(1, 3), 1);
        Check.due("the eighth", Edges.full().childOf(7, 3), 7);
        InASackToTheRope told = Check.told("sack 5 0;child 0 0 5;sack 5 0;child 0 0 5");
        Check.due("by a text", told.childOf(1, 3), 1);
    }

    private static void elseSack() {
        InASackToTheRope x = NEW.get();
        x.child(0, 0, 5);
        x.child(0, 0, 5);
        Check.due("without SACKS", x.childOf(1, 3), 0);
        x.sack(5, 0);
        x.sack(5, 0);
        Check.due("a SACK that comes later", x.childOf(1, 3), 0);
        x.child(0, 0, 5);
        Check.due("one SACK too few", x.childOf(2, 3), 0);
        x.sack(5, 0);
        Check.due("which comes later", x.childOf(2, 3), 0);
        InASackToTheRope told = Check.told("sack 5 0;child 0 0 5;child 0 0 5;sack 5 0");
        Check.due("by a text", told.childOf(1, 3), 0);
    }

    private static void ahead() {
        Edges.bounds(ONE, "AHEAD", 0, 99, (x, v) -> x.ahead(0, v), x -> x.childOf(0, 4));
        Edges.number("child 0 0 1", "ahead 0 ", "", 0, 99, x -> x.childOf(0, 4));
    }

    private static void aheadAtFirst() {
        Check.due("of a child", ONE.get().childOf(0, 4), 0);
        InASackToTheRope x = NEW.get();
        x.image();
        x.child(0, 0, 1);
        x.ahead(0, 99);
        x.restore();
        x.child(0, 0, 1);
        Check.due("of a child in one's place who is no more", x.childOf(0, 4), 0);
    }

    private static void sacks() {
        InASackToTheRope x = NEW.get();
        for (int s = 0; s < 8; s++) {
            Check.due("SACK " + s, x.sack(s + 1, s), s);
            Check.due("SACKS", x.status(1), s + 1);
        }
        Check.due("LENGTH of the first", x.sackOf(0, 0), 1);
        Check.due("LENGTH of the eighth", x.sackOf(7, 0), 8);
        Check.refused(Edges::full, "the ninth", y -> y.sack(5, 5), -7);
        Check.refused(Edges::full, "of a ninth", y -> y.sackOf(8, 0), -1);
        Check.fault("sack 1 1", Edges.EIGHT_SACKS, 63);
        Check.due("eight by a text", Check.told(Edges.EIGHT_SACKS).status(1), 8);
    }

    private static void length() {
        Edges.bounds(NEW, "LENGTH", 1, 9, (x, v) -> x.sack(v, 0), x -> x.sackOf(0, 0));
        Edges.number("", "sack ", " 0", 1, 9, x -> x.sackOf(0, 0));
    }

    private static void holes() {
        Edges.bounds(NEW, "HOLES", 0, 9, (x, v) -> x.sack(5, v), x -> x.sackOf(0, 1));
        Edges.number("", "sack 5 ", "", 0, 9, x -> x.sackOf(0, 1));
    }

    private static void term(int what, String word, int least, int most, int first) {
        Check.due("at first", NEW.get().status(2 + what), first);
        Edges.bounds(NEW, word, least, most, (x, v) -> x.ask(what, v), x -> x.status(2 + what));
        Edges.number("", word, "", least, most, x -> x.status(2 + what));
    }
}
