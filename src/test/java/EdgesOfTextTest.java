import java.util.function.Supplier;

/** Terms 1 and both Details, the texts of a field: what may still stand, and the place where it may not. */
final class EdgesOfTextTest {
    private static final String SOME = "child 0 0 1;child 1 0 2;sack 1 0;sack 2 0;sack 3 0";

    private EdgesOfTextTest() {
    }

    static void all() {
        Check.test("terms 1: a text is one ITEM at least", EdgesOfTextTest::oneItem);
        Check.test("terms 1: any number of times ; and ITEM, as far as a ROW goes", EdgesOfTextTest::manyItems);
        Check.test("terms 1: child K A L, each of three", EdgesOfTextTest::threeNumbers);
        Check.test("terms 1: sack, wears, ahead, each of two", EdgesOfTextTest::twoNumbers);
        Check.test("terms 1: way, up, rope, wind, each of one", EdgesOfTextTest::oneNumber);
        Check.test("terms 1: wears C S, a child and a SACK that there are", EdgesOfTextTest::wears);
        Check.test("terms 1: ahead C N, a child that there is", EdgesOfTextTest::ahead);
        Check.test("terms 1: one blank between words and NUMBERS, none else", EdgesOfTextTest::oneBlank);
        Check.test("terms 1: NUMBERS have 1 to 3 digits", EdgesOfTextTest::digits);
        Check.test("details: NUMBERS may begin with 0", EdgesOfTextTest::zeros);
        Check.test("terms 1: all is told over what there is", EdgesOfTextTest::over);
        Check.test("terms 1: or nothing is told", EdgesOfTextTest::nothing);
        Check.test("terms 1: a word without room can't stand, once it is whole", EdgesOfTextTest::room);
        Check.test("details: until a word is whole there is the first element that is not as it is",
                EdgesOfTextTest::beforeWhole);
        Check.test("terms 1: the FAULT is the number of elements, if it ends too early", EdgesOfTextTest::early);
        Check.test("terms 1: the FAULT is the first place", EdgesOfTextTest::firstPlace);
        Check.test("terms 1: of a NUMBER that may not be the place of its first digit", EdgesOfTextTest::firstDigit);
        Check.test("details: longs count by their lowest 32 bits", EdgesOfTextTest::longs);
    }

    private static void stands(String before, String text, int items) {
        InASackToTheRope x = Edges.made(before);
        Check.text(x, 0, text);
        Check.free(x, "field of " + text, () -> x.field(0), items);
        Check.due("fault of " + text, x.fault(), -1);
    }

    private static void oneItem() {
        Check.fault("", "", 0);
        stands("", "up 1", 1);
        Check.fault("", ";", 0);
        Check.fault("", ";up 1", 0);
        Check.fault("", "up 1;", 5);
        Check.fault("", "up 1;;up 1", 5);
    }

    private static void manyItems() {
        stands("", "up 1;up 2", 2);
        String all = "up 01" + ";up 1".repeat(31);
        Check.due("a full ROW", all.length(), 160);
        stands("", all, 32);
        Check.fault("", all.substring(0, 159) + "0", 159);
        Check.fault("", all.substring(0, 159) + "x", 159);
        Check.fault("", "up 1;".repeat(32), 160);
    }

    private static void threeNumbers() {
        stands("", "child 1 2 3", 1);
        Check.fault("", "child 1 2", 9);
        Check.fault("", "child 1 2;up 1", 9);
        Check.fault("", "child 1 2 3 4", 11);
    }

    private static void twoNumbers() {
        for (String item : new String[] {"sack", "wears", "ahead"}) {
            stands(SOME, item + " 1 1", 1);
            Check.fault(SOME, item + " 1", item.length() + 2);
            Check.fault(SOME, item + " 1;up 1", item.length() + 2);
            Check.fault(SOME, item + " 1 1 1", item.length() + 4);
        }
    }

    private static void oneNumber() {
        for (String item : new String[] {"way", "up", "rope", "wind"}) {
            stands("", item + " 1", 1);
            Check.fault("", item, item.length());
            Check.fault("", item + ";up 1", item.length());
            Check.fault("", item + " 1 1", item.length() + 2);
        }
    }

    private static void wears() {
        Edges.number(SOME, "wears ", " 2;wears 0 0", 0, 1, x -> x.childOf(1, 3) == 2 ? 1 : 0);
        Edges.number(SOME, "wears 0 ", "", 0, 2, x -> x.childOf(0, 3));
        Check.fault("", "wears 0 0", 6);
        Check.fault("child 0 0 1", "wears 0 0", 8);
        Check.fault("sack 1 1", "wears 0 0", 6);
        stands("", "child 0 0 1;sack 1 1;wears 0 0", 3);
        Check.fault("", "child 0 0 1;wears 0 0;sack 1 1", 20);
        InASackToTheRope full = Edges.full();
        Check.text(full, 0, "wears 7 0;wears 0 7");
        Check.due("of eight", full.field(0), 2);
        Check.due("the first SACK", full.childOf(7, 3), 0);
        Check.due("the last SACK", full.childOf(0, 3), 7);
        faultOfFull("wears 8 0", 6);
        faultOfFull("wears 0 8", 8);
    }

    private static void faultOfFull(String text, int want) {
        InASackToTheRope full = Edges.full();
        Check.text(full, 0, text);
        Check.due("field of " + text, full.field(0), -6);
        Check.due("fault of " + text, full.fault(), want);
    }

    private static void ahead() {
        Edges.number(SOME, "ahead ", " 7", 0, 1, x -> x.childOf(1, 4) == 7 ? 1 : 0);
        Check.fault("", "ahead 0 0", 6);
        stands("", "child 0 0 1;ahead 0 9", 2);
        Check.fault("", "ahead 0 9;child 0 0 1", 6);
        faultOfFull("ahead 8 0", 6);
    }

    private static void oneBlank() {
        String[] texts = {"way1", "way  1", "way 1 ", " way 1", "way 1 ;up 1", "way 1; up 1", "child0 0 1",
            "child 0  0 1", "child 0 0  1", "child 0 0 1 ", "child 0,0 1", "way\t1", "way 1,up 1"};
        int[] faults = {3, 4, 5, 0, 5, 6, 5, 8, 10, 11, 7, 3, 5};
        for (int i = 0; i < texts.length; i++) {
            Check.fault("", texts[i], faults[i]);
        }
    }

    private static void digits() {
        Check.fault("", "way ", 4);
        Check.fault("", "way x", 4);
        int[] ways = {7, 27, 127};
        for (int way : ways) {
            Check.due("WAY", Check.told("way " + way).status(2), way);
        }
        // the first three digits may be, so the fourth is what can't stand
        Check.fault("", "way 1271", 7);
        Check.fault("", "way 0011", 7);
        Check.fault("", "child 0001 0 1", 9);
        Check.fault("", "child 0 0 0011", 13);
        // they may not be, and begin before
        Check.fault("", "way 0001", 4);
        Check.fault("", "way 2011", 4);
    }

    private static void zeros() {
        InASackToTheRope x = Check.told("way 001;up 01;rope 000;wind 00;child 006 09 009;sack 001 000");
        int[] want = {1, 1, 1, 1, 0, 0};
        for (int what = 0; what < want.length; what++) {
            Check.due("status(" + what + ")", x.status(what), want[what]);
        }
        Check.due("LEGS", x.childOf(0, 2), 9);
        Check.tell(x, "wears 00 000;ahead 000 099");
        Check.due("AHEAD", x.childOf(0, 4), 99);
        Check.fault("", "way 00", 4);
        Check.fault("", "way 000", 4);
    }

    private static void over() {
        InASackToTheRope x = Check.told("sack 5 5;child 3 4 5;ahead 0 6;way 7;up 8;rope 9;wind 10");
        Check.tell(x, "child 1 1 1;sack 2 2");
        int[] want = {2, 2, 7, 8, 9, 10};
        for (int what = 0; what < want.length; what++) {
            Check.due("status(" + what + ")", x.status(what), want[what]);
        }
        int[] first = {3, 4, 5, 0, 6};
        for (int what = 0; what < first.length; what++) {
            Check.due("childOf(0, " + what + ")", x.childOf(0, what), first[what]);
        }
        Check.due("KIND of the new child", x.childOf(1, 0), 1);
        Check.due("LENGTH of the new SACK", x.sackOf(1, 0), 2);
        Check.tell(x, "wears 0 1;ahead 1 1;way 200");
        Check.due("SACK", x.childOf(0, 3), 1);
        Check.due("AHEAD", x.childOf(1, 4), 1);
        Check.due("WAY", x.status(2), 200);
        Check.due("UP", x.status(3), 8);
    }

    private static void nothing() {
        String[] items = {"child 0 0 1", "sack 1 1", "wears 0 1", "ahead 0 9", "way 9", "up 9", "rope 9", "wind 9"};
        for (String item : items) {
            Supplier<InASackToTheRope> make = () -> {
                InASackToTheRope x = Edges.lived();
                Check.text(x, 6, item + ";up 0");
                x.field(6);
                return x;
            };
            Check.refused(make, item + " and a FAULT", x -> x.field(6), -6);
            InASackToTheRope never = Edges.lived();
            InASackToTheRope told = Edges.lived();
            Check.text(told, 6, item + ";up 0");
            told.field(6);
            Check.text(never, 6, item + ";up 0");
            for (int what = 0; what <= 9; what++) {
                Check.due("status(" + what + ") by " + item, told.status(what), never.status(what));
            }
            for (int what = 0; what <= 8; what++) {
                Check.due("childOf(0, " + what + ") by " + item, told.childOf(0, what), never.childOf(0, what));
            }
        }
    }

    private static void room() {
        String seven = Edges.EIGHT_CHILDREN.substring(12);
        stands(seven, "child 0 0 1", 1);
        Check.fault(seven, "child 0 0 1;child 0 0 1", 12);
        Check.fault(Edges.EIGHT_CHILDREN, "child 0 0 1", 0);
        Check.fault(Edges.EIGHT_CHILDREN, "child 9", 0);
        Check.fault(Edges.EIGHT_CHILDREN, "child", 0);
        Check.fault(Edges.EIGHT_CHILDREN, "childx", 0);
        Check.fault(Edges.EIGHT_CHILDREN, "up 1;child", 5);
        stands(Edges.EIGHT_CHILDREN, Edges.EIGHT_SACKS, 8);
        String sacks = Edges.EIGHT_SACKS.substring(9);
        stands(sacks, "sack 1 1", 1);
        Check.fault(sacks, "sack 1 1;sack 1 1", 9);
        Check.fault(Edges.EIGHT_SACKS, "sack", 0);
        Check.fault(Edges.EIGHT_SACKS, "sackx", 0);
        stands(Edges.EIGHT_SACKS, Edges.EIGHT_CHILDREN, 8);
    }

    private static void beforeWhole() {
        String[] texts = {"", "c", "chil", "chilx", "chil ", "cx"};
        int[] faults = {0, 1, 4, 4, 4, 1};
        for (int i = 0; i < texts.length; i++) {
            Check.fault(Edges.EIGHT_CHILDREN, texts[i], faults[i]);
            Check.fault("", texts[i], faults[i]);
        }
        Check.fault(Edges.EIGHT_SACKS, "sac", 3);
        Check.fault(Edges.EIGHT_SACKS, "sac 1 1", 3);
        // with room there is nothing amiss about the word
        Check.fault("", "child", 5);
        Check.fault("", "childx", 5);
        // words that begin alike
        String[] alike = {"w", "wx", "we", "wa", "wi", "wea", "wex", "wax", "wix", "wears", "way", "wind"};
        int[] ends = {1, 1, 2, 2, 2, 3, 2, 2, 2, 5, 3, 4};
        for (int i = 0; i < alike.length; i++) {
            Check.fault("", alike[i], ends[i]);
        }
    }

    private static void early() {
        String all = "child 6 9 9;sack 9 9;wears 0 0;ahead 0 99;way 200;up 20;rope 9;wind 60";
        for (int n = 0; n < all.length(); n++) {
            String begun = all.substring(0, n);
            String[] items = begun.split(";", -1);
            if (isWhole(items[items.length - 1])) {
                stands("", begun, items.length);
            } else {
                Check.fault("", begun, n);
            }
        }
        stands("", all, 8);
    }

    private static boolean isWhole(String item) {
        return item.matches("child \\d+ \\d+ \\d+|(sack|wears|ahead) \\d+ \\d+|(way|up|rope|wind) \\d+");
    }

    private static void firstPlace() {
        Check.fault("", "way 0;up 0;x", 4);
        Check.fault("", "way 1;up 0;x", 9);
        Check.fault("", "way 1;up 1;x", 11);
        Check.fault("", "x;way 0", 0);
        Check.fault("", "child 7 10 0", 6);
        Check.fault("", "child 6 10 0", 8);
        Check.fault("", "child 6 9 0", 10);
    }

    private static void firstDigit() {
        Check.fault("", "way 0", 4);
        Check.fault("", "way 00;up 1", 4);
        Check.fault("", "way 201", 4);
        Check.fault("", "up 21", 3);
        Check.fault("", "up 021", 3);
        Check.fault("", "sack 10 0", 5);
        Check.fault("", "sack 1 010", 7);
        Check.fault("", "child 0 0 10", 10);
        Check.fault(SOME, "wears 2 0", 6);
        Check.fault(SOME, "wears 1 003", 8);
        // it may not be: whatever comes behind it comes later
        Check.fault("", "way 0x", 4);
    }

    private static void longs() {
        long[] high = {1L << 32, -1L << 32, Long.MIN_VALUE, 0x7fffffffL << 32};
        for (long bits : high) {
            InASackToTheRope x = new InASackToTheRope();
            Check.row(x, 0, 3, 'u' | bits, 'p' | bits, ' ' | bits, '9' | bits);
            Check.free(x, "longs with " + bits, () -> x.field(0), 1);
            Check.due("UP", x.status(3), 9);
            Check.row(x, 0, 3, 'u' | 1L << 31, 'p', ' ', '8');
            Check.due("bit 31 counts", x.field(0), -6);
            Check.due("fault()", x.fault(), 0);
        }
        InASackToTheRope ints = new InASackToTheRope();
        Check.row(ints, 0, 2, 'u' + 256, 'p', ' ', '8');
        Check.due("bit 8 of an int counts", ints.field(0), -6);
        Check.row(ints, 0, 0, 'u' + 256, 'p', ' ', '8');
        Check.due("it isn't kept in a byte", ints.field(0), 1);
    }
}
