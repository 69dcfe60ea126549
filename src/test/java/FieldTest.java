import java.util.function.Supplier;

/** Promises 9 to 18: children, sacks, what is asked, and fields read from texts. */
final class FieldTest {
    private static final String EIGHT_CHILDREN = "child 0 0 1;child 0 0 1;child 0 0 1;child 0 0 1;"
            + "child 0 0 1;child 0 0 1;child 0 0 1;child 0 0 1";
    private static final String EIGHT_SACKS = "sack 1 0;sack 1 0;sack 1 0;sack 1 0;"
            + "sack 1 0;sack 1 0;sack 1 0;sack 1 0";

    private FieldTest() {
    }

    static void all() {
        Check.test("9 child", FieldTest::child);
        Check.test("9 child, refused", FieldTest::childRefused);
        Check.test("10 sack", FieldTest::sack);
        Check.test("11 childOf", FieldTest::childOf);
        Check.test("11 childOf, STRIDE and PUFF and RISK", FieldTest::howTheyHop);
        Check.test("12 sackOf", FieldTest::sackOf);
        Check.test("13 wears", FieldTest::wears);
        Check.test("14 ahead", FieldTest::ahead);
        Check.test("15 ask", FieldTest::ask);
        Check.test("16 roll", FieldTest::roll);
        Check.test("17 field", FieldTest::field);
        Check.test("17 field, over what there is", FieldTest::fieldOver);
        Check.test("17 field, by rows of all sorts", FieldTest::fieldBySorts);
        Check.test("17 field, refused", FieldTest::fieldRefused);
        Check.test("18 fault, letters", FieldTest::faultOfLetters);
        Check.test("18 fault, numbers", FieldTest::faultOfNumbers);
        Check.test("18 fault, room", FieldTest::faultOfRoom);
        Check.test("18 fault, the latest", FieldTest::faultOfTheLatest);
    }

    private static void childIs(InASackToTheRope x, int child, int... want) {
        for (int what = 0; what < want.length; what++) {
            Check.due("childOf(" + child + ", " + what + ")", x.childOf(child, what), want[what]);
        }
    }

    private static void child() {
        InASackToTheRope x = new InASackToTheRope();
        Check.due("the first", x.child(6, 9, 9), 0);
        Check.due("the second", x.child(0, 0, 1), 1);
        x.sack(5, 0);
        x.sack(5, 0);
        x.sack(5, 0);
        Check.due("the third", x.child(3, 4, 7), 2);
        Check.due("the fourth", x.child(2, 0, 5), 3);
        childIs(x, 0, 6, 9, 9, 0, 0);
        childIs(x, 1, 0, 0, 1, 0, 0);
        childIs(x, 2, 3, 4, 7, 2, 0);
        childIs(x, 3, 2, 0, 5, 0, 0);
        Check.due("won", x.childOf(2, 8), 0);
        Check.due("status(0)", x.status(0), 4);
    }

    private static void childRefused() {
        Supplier<InASackToTheRope> make = () -> Check.told("child 0 0 1");
        Check.refused(make, "child(7, 10, 0)", y -> y.child(7, 10, 0), -1);
        Check.refused(make, "child(-1, 0, 1)", y -> y.child(-1, 0, 1), -1);
        Check.refused(make, "child(0, -1, 1)", y -> y.child(0, -1, 1), -6);
        Check.refused(make, "child(0, 10, 1)", y -> y.child(0, 10, 1), -6);
        Check.refused(make, "child(0, 0, 0)", y -> y.child(0, 0, 0), -6);
        Check.refused(make, "child(0, 0, 10)", y -> y.child(0, 0, 10), -6);
        Supplier<InASackToTheRope> full = () -> Check.told(EIGHT_CHILDREN);
        Check.refused(full, "a ninth", y -> y.child(0, 0, 1), -7);
        Check.refused(full, "a ninth with LEGS 0", y -> y.child(0, 0, 0), -6);
        Check.refused(full, "a ninth of no KIND", y -> y.child(7, 0, 1), -1);
    }

    private static void sack() {
        InASackToTheRope x = new InASackToTheRope();
        for (int s = 0; s < 8; s++) {
            Check.due("sack", x.sack(s + 1, 9 - s), s);
        }
        for (int s = 0; s < 8; s++) {
            Check.due("LENGTH", x.sackOf(s, 0), s + 1);
            Check.due("HOLES", x.sackOf(s, 1), 9 - s);
        }
        Check.due("status(1)", x.status(1), 8);
        Supplier<InASackToTheRope> make = () -> Check.told(EIGHT_SACKS);
        Check.refused(make, "a ninth", y -> y.sack(9, 9), -7);
        Check.refused(make, "sack(0, 0)", y -> y.sack(0, 0), -6);
        Check.refused(make, "sack(10, 0)", y -> y.sack(10, 0), -6);
        Check.refused(make, "sack(1, -1)", y -> y.sack(1, -1), -6);
        Check.refused(make, "sack(1, 10)", y -> y.sack(1, 10), -6);
    }

    private static void childOf() {
        InASackToTheRope x = Check.told("sack 5 0;sack 7 2;child 0 1 2;child 5 3 4;ahead 1 99");
        childIs(x, 0, 0, 1, 2, 0, 0);
        childIs(x, 1, 5, 3, 4, 1, 99, 7, 5, 28, 0);
        x.ask(3, 0);
        Check.due("RISK without the 20 more", x.childOf(1, 7), 28);
        Supplier<InASackToTheRope> make = () -> Check.told("child 0 0 1");
        Check.refused(make, "childOf(1, 0)", y -> y.childOf(1, 0), -5);
        Check.refused(make, "childOf(-1, 0)", y -> y.childOf(-1, 0), -5);
        Check.refused(make, "childOf(0, 9)", y -> y.childOf(0, 9), -5);
        Check.refused(make, "childOf(0, -1)", y -> y.childOf(0, -1), -5);
        Check.refused(make, "childOf(8, 9)", y -> y.childOf(8, 9), -5);
    }

    private static void howTheyHop() {
        int[] puffs = {2, 1, 4, 0, 3, 5, 2};
        hop("", 5, 3, new int[] {5, 4, 7, 3, 6, 8, 5}, puffs, new int[] {5, 4, 7, 3, 3, 8, 2});
        hop("sack 7 2;", 5, 3, new int[] {5, 4, 7, 3, 4, 8, 3}, puffs, new int[] {21, 20, 23, 19, 10, 24, 9});
        hop("sack 3 2;", 5, 3, new int[] {5, 4, 7, 3, 4, 8, 3}, puffs, new int[] {21, 20, 23, 19, 10, 24, 9});
        hop("sack 1 9;", 9, 9, new int[] {9, 8, 11, 5, 2, 18, 1}, puffs, new int[] {76, 75, 78, 72, 34, 85, 34});
        hop("sack 9 0;", 1, 0, new int[] {1, 1, 3, 1, 1, 1, 1}, puffs, new int[] {41, 41, 43, 41, 20, 41, 20});
        hop("sack 4 1;", 4, 0, new int[] {4, 3, 6, 2, 5, 4, 4}, puffs, new int[] {7, 6, 9, 5, 4, 7, 3});
    }

    private static void hop(String sack, int legs, int a, int[] strides, int[] puffs, int[] risks) {
        for (int kind = 0; kind < 7; kind++) {
            InASackToTheRope x = Check.told(sack + "child " + kind + " " + a + " " + legs);
            String who = " of KIND " + kind + ", LEGS " + legs + " in " + sack;
            Check.due("STRIDE" + who, x.childOf(0, 5), strides[kind]);
            Check.due("PUFF" + who, x.childOf(0, 6), puffs[kind]);
            Check.due("RISK" + who, x.childOf(0, 7), risks[kind]);
        }
    }

    private static void sackOf() {
        Supplier<InASackToTheRope> make = () -> Check.told("sack 5 0;sack 7 2");
        Check.due("LENGTH", make.get().sackOf(1, 0), 7);
        Check.due("HOLES", make.get().sackOf(1, 1), 2);
        Check.refused(make, "sackOf(2, 2)", y -> y.sackOf(2, 2), -1);
        Check.refused(make, "sackOf(-1, 0)", y -> y.sackOf(-1, 0), -1);
        Check.refused(make, "sackOf(0, 2)", y -> y.sackOf(0, 2), -5);
        Check.refused(make, "sackOf(0, -1)", y -> y.sackOf(0, -1), -5);
    }

    private static void wears() {
        Supplier<InASackToTheRope> make = () -> Check.told("sack 5 0;sack 7 2;child 0 0 5;child 0 0 5");
        InASackToTheRope x = make.get();
        Check.due("wears(1, 0)", x.wears(1, 0), 1);
        Check.due("wears(1, 1)", x.wears(1, 1), 0);
        Check.due("wears(0, 1)", x.wears(0, 1), 0);
        Check.due("SACK", x.childOf(0, 3), 1);
        Check.due("RISK in it", x.childOf(0, 7), 21);
        Check.refused(make, "wears(2, 0)", y -> y.wears(2, 0), -1);
        Check.refused(make, "wears(-1, 0)", y -> y.wears(-1, 0), -1);
        Check.refused(make, "wears(0, 2)", y -> y.wears(0, 2), -1);
        Check.refused(make, "wears(0, -1)", y -> y.wears(0, -1), -1);
        Check.refused(() -> Check.told("child 0 0 1"), "no SACKS", y -> y.wears(0, 0), -1);
    }

    private static void ahead() {
        Supplier<InASackToTheRope> make = () -> Check.told("child 0 0 5");
        InASackToTheRope x = make.get();
        Check.due("ahead(0, 99)", x.ahead(0, 99), 0);
        Check.due("ahead(0, 0)", x.ahead(0, 0), 99);
        Check.due("ahead(0, 7)", x.ahead(0, 7), 0);
        Check.due("AHEAD", x.childOf(0, 4), 7);
        Check.refused(make, "ahead(1, 100)", y -> y.ahead(1, 100), -1);
        Check.refused(make, "ahead(-1, 0)", y -> y.ahead(-1, 0), -1);
        Check.refused(make, "ahead(0, 100)", y -> y.ahead(0, 100), -6);
        Check.refused(make, "ahead(0, -1)", y -> y.ahead(0, -1), -6);
    }

    private static void ask() {
        int[] least = {1, 1, 0, 0};
        int[] most = {200, 20, 9, 60};
        int[] first = {40, 5, 3, 20};
        Supplier<InASackToTheRope> make = InASackToTheRope::new;
        InASackToTheRope x = make.get();
        for (int what = 0; what < 4; what++) {
            Check.due("ask the least", x.ask(what, least[what]), first[what]);
            Check.due("status", x.status(2 + what), least[what]);
            Check.due("ask the most", x.ask(what, most[what]), least[what]);
            Check.due("status", x.status(2 + what), most[what]);
            int w = what;
            Check.refused(make, "below the least", y -> y.ask(w, least[w] - 1), -6);
            Check.refused(make, "above the most", y -> y.ask(w, most[w] + 1), -6);
        }
        Check.refused(make, "ask(4, 1)", y -> y.ask(4, 1), -6);
        Check.refused(make, "ask(-1, 1)", y -> y.ask(-1, 1), -6);
    }

    private static void roll() {
        InASackToTheRope x = new InASackToTheRope();
        Check.due("roll(true)", x.roll(true), 0);
        Check.due("status(6)", x.status(6), 1);
        Check.due("roll(true)", x.roll(true), 1);
        Check.due("roll(false)", x.roll(false), 1);
        Check.due("status(6)", x.status(6), 0);
        Check.due("roll(false)", x.roll(false), 0);
    }

    private static void field() {
        InASackToTheRope x = new InASackToTheRope();
        Check.text(x, 0, "child 6 9 1;sack 9 0;child 0 0 9;sack 1 9;child 5 5 5;wears 2 1;ahead 0 99;"
                + "way 200;up 20;rope 9;wind 60");
        Check.due("ITEMS", x.field(0), 11);
        childIs(x, 0, 6, 9, 1, 0, 99);
        childIs(x, 1, 0, 0, 9, 0, 0);
        childIs(x, 2, 5, 5, 5, 1, 0);
        Check.due("LENGTH", x.sackOf(1, 0), 1);
        Check.due("HOLES", x.sackOf(1, 1), 9);
        int[] want = {3, 2, 200, 20, 9, 60};
        for (int what = 0; what < want.length; what++) {
            Check.due("status(" + what + ")", x.status(what), want[what]);
        }
        Check.due("the text stays", x.element(0, 0), 'c');
        InASackToTheRope one = new InASackToTheRope();
        Check.text(one, 3, "way 007");
        Check.due("one ITEM", one.field(3), 1);
        Check.due("numbers may begin with 0", one.status(2), 7);
        Check.text(one, 3, "sack 01 009;child 006 00 09;way 001;up 01;rope 000;wind 00");
        Check.due("six ITEMS", one.field(3), 6);
        Check.due("the fault", one.fault(), -1);
        childIs(one, 0, 6, 0, 9);
    }

    private static void fieldOver() {
        InASackToTheRope x = Check.told("sack 5 0;child 0 0 5;ahead 0 9;up 9");
        x.seed(77);
        x.roll(true);
        Check.tell(x, "sack 7 2;child 1 1 1;wears 0 1;ahead 1 8");
        childIs(x, 0, 0, 0, 5, 1, 9);
        childIs(x, 1, 1, 1, 1, 1, 8);
        Check.due("UP stays", x.status(3), 9);
        Check.due("SEED stays", x.status(8), 77);
        Check.due("all roll still", x.status(6), 1);
        Check.due("children", x.status(0), 2);
        Check.due("SACKS", x.status(1), 2);
        Check.tell(x, "sack 1 0;sack 1 0;wears 1 3");
        Check.due("a SACK beyond the children's number", x.childOf(1, 3), 3);
        InASackToTheRope full = Check.told(EIGHT_CHILDREN);
        Check.tell(full, EIGHT_SACKS);
        Check.due("eight", full.status(0) + full.status(1), 16);
        Check.tell(full, "wears 7 7;ahead 7 99");
        childIs(full, 7, 0, 0, 1, 7, 99);
    }

    private static void fieldBySorts() {
        for (int sort = 0; sort < 4; sort++) {
            InASackToTheRope x = new InASackToTheRope();
            Check.row(x, 0, sort, Check.letters("up 7"));
            Check.due("field by sort " + sort, x.field(0), 1);
            Check.due("UP", x.status(3), 7);
        }
        InASackToTheRope x = new InASackToTheRope();
        Check.row(x, 0, 3, 'u' + (5L << 32), 'p' - (1L << 40), ' ', '8' + Long.MIN_VALUE);
        Check.due("the lowest 32 bits of longs", x.field(0), 1);
        Check.due("UP", x.status(3), 8);
        Check.row(x, 0, 2, 'u', 'p', ' ' + 256, '9');
        Check.due("no letter", x.field(0), -6);
        Check.due("fault()", x.fault(), 2);
        Check.row(x, 0, 1, 'u' - 65536L, 'p', ' ', '9');
        Check.due("the lowest bits are kept", x.field(0), 1);
    }

    private static void fieldRefused() {
        Supplier<InASackToTheRope> make = () -> {
            InASackToTheRope x = Check.told("sack 5 0;child 0 0 5");
            x.show(1, 0);
            Check.text(x, 0, "child 0 0 1;sack 1 1;way 9;wears 0 1;ahead 0 7;up 0");
            x.field(0);
            return x;
        };
        Check.refused(make, "field(8)", y -> y.field(8), -1);
        Check.refused(make, "field(-1)", y -> y.field(-1), -1);
        Check.refused(make, "field(1)", y -> y.field(1), -2);
        Check.refused(make, "field(2)", y -> y.field(2), -3);
        Check.refused(make, "a FAULT at the end tells nothing", y -> y.field(0), -6);
        InASackToTheRope x = make.get();
        Check.due("children", x.status(0), 1);
        Check.due("SACKS", x.status(1), 1);
        Check.due("WAY", x.status(2), 40);
        Check.due("AHEAD", x.childOf(0, 4), 0);
    }

    private static void faultOfLetters() {
        String[] texts = {"", "c", "chil", "chilx", "child", "childx", "child ", "child  0", "child 0",
            "child 0,0 0", "child 0 0 1 ", "child 0 0 1;", "child 0 0 1;;", "child 0 0 1 0", "child 0 0 1,up 1",
            "x", " way 1", "Way 1", "wx", "wax", "wex", "wix", "we", "way", "sacks 1 1", "up 1;ux", "up 1;up", ";",
            "up -1", "up x", "up 1x", "rope1", "wind\t1"};
        int[] faults = {0, 1, 4, 4, 5, 5, 6, 6, 7,
            7, 11, 12, 12, 11, 11,
            0, 0, 0, 1, 2, 2, 2, 2, 3, 4, 6, 7, 0,
            3, 3, 4, 4, 4};
        for (int i = 0; i < texts.length; i++) {
            Check.fault("", texts[i], faults[i]);
        }
    }

    private static void faultOfNumbers() {
        String[] texts = {"child 7 0 1", "child 0 10 1", "child 0 0 0", "child 0 0 10", "child 7", "child 8x",
            "sack 0 0", "sack 10 0", "sack 1 10", "way 0", "way 201", "way 999", "way 9999", "way 0401", "way 1000",
            "up 0", "up 21", "rope 10", "wind 61", "up 20;rope 9;wind 99", "wears 0 0", "ahead 0 0"};
        int[] faults = {6, 8, 10, 10, 6, 6,
            5, 5, 7, 4, 4, 4, 4, 7, 7,
            3, 3, 5, 5, 18, 6, 6};
        for (int i = 0; i < texts.length; i++) {
            Check.fault("", texts[i], faults[i]);
        }
        Check.fault("child 0 0 1", "wears 0 0", 8);
        Check.fault("child 0 0 1", "ahead 0 100", 8);
        Check.fault("child 0 0 1", "ahead 1 5", 6);
        Check.fault("child 0 0 1;sack 1 1", "wears 1 0", 6);
        Check.fault("child 0 0 1;sack 1 1", "wears 0 1", 8);
        Check.fault("child 0 0 1;sack 1 1", "sack 1 1;wears 0 1;wears 0 2", 27);
        Check.fault("child 0 0 1;sack 1 1", "wears 0 1;sack 1 1", 8);
    }

    private static void faultOfRoom() {
        Check.fault(EIGHT_CHILDREN, "child 0 0 1", 0);
        Check.fault(EIGHT_CHILDREN, "child", 0);
        Check.fault(EIGHT_CHILDREN, "childx", 0);
        Check.fault(EIGHT_CHILDREN, "chil", 4);
        Check.fault(EIGHT_CHILDREN, "chilx", 4);
        Check.fault(EIGHT_CHILDREN, "way 30;child", 7);
        Check.fault(EIGHT_SACKS, "sack 1 1", 0);
        Check.fault(EIGHT_SACKS, "sack", 0);
        Check.fault(EIGHT_SACKS, "sac", 3);
        Check.fault(EIGHT_SACKS, "sa 1", 2);
        Check.fault("child 0 0 1", EIGHT_CHILDREN, 84);
        Check.fault("sack 1 1;sack 1 1", EIGHT_SACKS, 54);
    }

    private static void faultOfTheLatest() {
        InASackToTheRope x = new InASackToTheRope();
        Check.due("none yet", x.fault(), -1);
        Check.text(x, 0, "up x");
        x.field(0);
        Check.due("fault()", x.fault(), 3);
        x.field(8);
        x.field(1);
        x.child(0, 0, 1);
        x.show(2, 0);
        x.field(2);
        Check.free(x, "the latest that came to a ROW", x::fault, 3);
        x.image();
        x.restore();
        Check.due("the image doesn't have it", x.fault(), 3);
        Check.text(x, 0, "up 1");
        x.field(0);
        Check.due("there was none", x.fault(), -1);
    }
}
