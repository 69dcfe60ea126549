import java.util.function.Supplier;

/** What the promises themselves say of boundary cases, beside the terms (EdgesOf..) and the refusals (RefusalsTest). */
final class EdgesOfPromisesTest {
    private static final Supplier<InASackToTheRope> NEW = InASackToTheRope::new;

    private EdgesOfPromisesTest() {
    }

    static void all() {
        Check.test("promise 1: no children, no SACKS", EdgesOfPromisesTest::aNewObject);
        Check.test("promises: an object is used for 512 calls", EdgesOfPromisesTest::manyCalls);
        Check.test("terms 3: SHELVES 0 to 7 hold NOTHING at first", EdgesOfPromisesTest::shelves);
        Check.test("promise 2: SORT is 0 to 3", EdgesOfPromisesTest::sorts);
        Check.test("promise 2: 0 to 160 elements, 0 at first", EdgesOfPromisesTest::sizes);
        Check.test("promise 2: SHELF s holds a new ROW", EdgesOfPromisesTest::newRow);
        Check.test("promise 3: what is put in keeps its lowest bits", EdgesOfPromisesTest::lowestBits);
        Check.test("promise 3: element i, the first and the last", EdgesOfPromisesTest::firstAndLast);
        Check.test("promise 4: n elements, from 0 to all", EdgesOfPromisesTest::copySizes);
        Check.test("promise 4: as they were ahead", EdgesOfPromisesTest::copyOver);
        Check.test("promise 4: two SORTS only when both hold something", EdgesOfPromisesTest::copySorts);
        Check.test("promise 5: 0 if there is none, nothing is refused", EdgesOfPromisesTest::noElement);
        Check.test("promise 6: a child, or NOTHING (child NONE): 1, 0", EdgesOfPromisesTest::show);
        Check.test("promise 7: NONE NOTHING, or no such SHELF", EdgesOfPromisesTest::holdsNone);
        Check.test("promise 7: a child's number; 100 and the SORT", EdgesOfPromisesTest::holdsNumbers);
        Check.test("promise 8: RISK with all its BREATH", EdgesOfPromisesTest::saysRisk);
        Check.test("details: childOf() tells RISK without the 20 more", EdgesOfPromisesTest::childOfRisk);
        Check.test("promise 13: which was it", EdgesOfPromisesTest::wears);
        Check.test("promises 14 to 16: what it was", EdgesOfPromisesTest::whatItWas);
        Check.test("promise 17: how many ITEMS", EdgesOfPromisesTest::items);
        Check.test("promise 18: NONE, there was none, or none yet", EdgesOfPromisesTest::faultNone);
        Check.test("promise 18: of the latest field() that came to a ROW", EdgesOfPromisesTest::faultLatest);
        Check.test("promise 36: what it was, nothing is refused", EdgesOfPromisesTest::seed);
        Check.test("promise 37: 0, and no TRACE then: no such child, move", EdgesOfPromisesTest::noAct);
        Check.test("promise 38: NONE, none such", EdgesOfPromisesTest::noTrace);
        Check.test("promise 39: how many children, from 0 to 8", EdgesOfPromisesTest::imageSizes);
        Check.test("promise 39: all but SHELVES, REFUSALS, FAULT, TRACE", EdgesOfPromisesTest::imageOf);
        Check.test("promise 40: SHELVES with children hold those, or NOTHING", EdgesOfPromisesTest::restoreShelves);
        Check.test("promise 41: NONE for another what", EdgesOfPromisesTest::statusNone);
        Check.test("promise 41: 11 to 17, REFUSALS -1 to -7", EdgesOfPromisesTest::statusRefusals);
        Check.test("promise 41: bodies, RACES, SEED", EdgesOfPromisesTest::statusCounts);
    }

    private static void aNewObject() {
        InASackToTheRope x = NEW.get();
        Check.due("children", x.status(0), 0);
        Check.due("SACKS", x.status(1), 0);
        for (int c = 0; c < 8; c++) {
            Check.due("comesIn(" + c + ")", x.comesIn(c), -1);
            Check.due("sackOf(" + c + ", 0)", x.sackOf(c, 0), -1);
        }
        InASackToTheRope used = Edges.full();
        Check.due("another object has its own", NEW.get().status(0), used.status(0) - 8);
    }

    private static void manyCalls() {
        InASackToTheRope x = NEW.get();
        Check.due("the first call", x.child(6, 0, 1), 0);
        for (int call = 2; call < 512; call++) {
            Check.due("call " + call, x.race(), 0);
        }
        Check.due("the 512th call", x.status(7), 510);
    }

    private static void shelves() {
        InASackToTheRope x = NEW.get();
        for (int s = 0; s < 8; s++) {
            Check.due("holds(" + s + ")", x.holds(s), -1);
        }
        x.child(0, 0, 1);
        for (int s : new int[] {0, 7}) {
            Check.due("row(" + s + ", 0, 1)", x.row(s, 0, 1), 1);
            Check.due("set(" + s + ", 0, 5)", x.set(s, 0, 5), 1);
            Check.due("element(" + s + ", 0)", x.element(s, 0), 5);
            Check.due("show(" + s + ", 0)", x.show(s, 0), 1);
            Check.due("holds(" + s + ")", x.holds(s), 0);
        }
        for (int s = 1; s < 7; s++) {
            Check.due("holds(" + s + ") still", x.holds(s), -1);
        }
    }

    private static void sorts() {
        for (int sort : new int[] {0, 3}) {
            InASackToTheRope x = NEW.get();
            Check.free(x, "row(0, " + sort + ", 1)", () -> x.row(0, sort, 1), 1);
            Check.due("holds", x.holds(0), 100 + sort);
        }
        Edges.left(NEW, "SORT", 0, 3, (x, v) -> x.row(0, v, 1), -6);
    }

    private static void sizes() {
        InASackToTheRope x = NEW.get();
        Check.free(x, "row of none", () -> x.row(0, 0, 0), 1);
        Check.due("holds", x.holds(0), 100);
        Check.due("set the first of none", x.set(0, 0, 1), -5);
        Check.free(x, "row of 160", () -> x.row(0, 0, 160), 1);
        for (int i = 0; i < 160; i++) {
            Check.due("element(0, " + i + ")", x.element(0, i), 0);
        }
        Check.due("set the last", x.set(0, 159, 1), 1);
        Check.due("set one more", x.set(0, 160, 1), -5);
        Check.refused(NEW, "n -1", y -> y.row(0, 0, -1), -4);
        Check.refused(NEW, "n min", y -> y.row(0, 0, Edges.MIN), -4);
        Check.refused(NEW, "n 161", y -> y.row(0, 0, 161), -7);
        Check.refused(NEW, "n max", y -> y.row(0, 0, Edges.MAX), -7);
    }

    private static void newRow() {
        InASackToTheRope x = NEW.get();
        Check.row(x, 0, 3, 1, 2, 3);
        Check.due("a shorter one", x.row(0, 0, 2), 1);
        Check.due("holds", x.holds(0), 100);
        Check.due("0 at first", x.element(0, 0), 0);
        Check.due("0 at first", x.element(0, 1), 0);
        Check.due("gone", x.set(0, 2, 1), -5);
        Check.due("a longer one", x.row(0, 3, 3), 1);
        Check.due("0 at first", x.element(0, 2), 0);
        x.child(0, 0, 1);
        x.show(0, 0);
        Check.due("over a child", x.row(0, 1, 1), 1);
        Check.due("holds", x.holds(0), 101);
    }

    private static void lowestBits() {
        long[][] putKept = {
            {0, 127, 127}, {0, 128, -128}, {0, -128, -128}, {0, -129, 127}, {0, 255, -1}, {0, 256, 0},
            {0, Long.MAX_VALUE, -1}, {0, Long.MIN_VALUE, 0},
            {1, 32767, 32767}, {1, 32768, -32768}, {1, -32768, -32768}, {1, -32769, 32767}, {1, 65535, -1},
            {1, 65536, 0}, {1, 128, 128}, {1, Long.MIN_VALUE, 0},
            {2, 2147483647L, 2147483647L}, {2, 2147483648L, -2147483648L}, {2, -2147483648L, -2147483648L},
            {2, -2147483649L, 2147483647L}, {2, 4294967295L, -1}, {2, 4294967296L, 0}, {2, 32768, 32768},
            {3, Long.MAX_VALUE, Long.MAX_VALUE}, {3, Long.MIN_VALUE, Long.MIN_VALUE}, {3, 4294967296L, 4294967296L}};
        InASackToTheRope x = NEW.get();
        for (int sort = 0; sort <= 3; sort++) {
            x.row(sort, sort, 1);
        }
        for (long[] p : putKept) {
            Check.due("set", x.set((int) p[0], 0, p[1]), 1);
            Check.due("SORT " + p[0] + " keeps of " + p[1], x.element((int) p[0], 0), p[2]);
        }
    }

    private static void firstAndLast() {
        InASackToTheRope x = NEW.get();
        x.row(0, 2, 3);
        Check.due("set the first", x.set(0, 0, 7), 1);
        Check.due("set the last", x.set(0, 2, 9), 1);
        long[] want = {7, 0, 9};
        for (int i = 0; i < 3; i++) {
            Check.due("element(0, " + i + ")", x.element(0, i), want[i]);
        }
        Check.refused(Edges::lived, "one before", y -> y.set(0, -1, 1), -5);
        Check.refused(Edges::lived, "one behind", y -> y.set(0, 3, 1), -5);
    }

    private static void copySizes() {
        InASackToTheRope x = NEW.get();
        Check.row(x, 0, 2, 1, 2, 3);
        Check.row(x, 1, 2, 7, 8);
        Check.free(x, "none from the ends", () -> x.copy(0, 1, 3, 2, 0), 1);
        Check.free(x, "none from the beginnings", () -> x.copy(0, 1, 0, 0, 0), 1);
        Check.due("stays", x.element(1, 0), 7);
        Check.free(x, "the last to the last", () -> x.copy(0, 1, 2, 1, 1), 1);
        Check.due("the last", x.element(1, 1), 3);
        Check.due("the first stays", x.element(1, 0), 7);
        Check.free(x, "all of it", () -> x.copy(1, 0, 0, 1, 2), 1);
        long[] want = {1, 7, 3};
        for (int i = 0; i < 3; i++) {
            Check.due("element(0, " + i + ")", x.element(0, i), want[i]);
        }
        x.row(2, 2, 160);
        x.row(3, 2, 160);
        x.set(2, 159, 5);
        Check.free(x, "160", () -> x.copy(2, 3, 0, 0, 160), 1);
        Check.due("the last of 160", x.element(3, 159), 5);
        Check.due("161", x.copy(2, 3, 0, 0, 161), -5);
        x.row(4, 2, 0);
        Check.free(x, "of none", () -> x.copy(4, 4, 0, 0, 0), 1);
    }

    private static void copyOver() {
        InASackToTheRope x = NEW.get();
        Check.row(x, 0, 0, 1, 2, 3, 4);
        Check.due("one up", x.copy(0, 0, 0, 1, 3), 1);
        long[] up = {1, 1, 2, 3};
        for (int i = 0; i < 4; i++) {
            Check.due("up, element " + i, x.element(0, i), up[i]);
        }
        Check.due("one down", x.copy(0, 0, 1, 0, 3), 1);
        long[] down = {1, 2, 3, 3};
        for (int i = 0; i < 4; i++) {
            Check.due("down, element " + i, x.element(0, i), down[i]);
        }
        Check.due("onto itself", x.copy(0, 0, 0, 0, 4), 1);
        Check.due("stays", x.element(0, 1), 2);
    }

    private static void copySorts() {
        InASackToTheRope x = Edges.lived();
        for (int p = 0; p < 4; p++) {
            for (int q = 0; q < 4; q++) {
                Check.due("copy(" + p + ", " + q + ", 0, 0, 0)", x.copy(p, q, 0, 0, 0), p == q ? 1 : -2);
            }
            Check.due("copy(" + p + ", 7, 0, 0, 0)", x.copy(p, 7, 0, 0, 0), -3);
            Check.due("copy(7, " + p + ", 0, 0, 0)", x.copy(7, p, 0, 0, 0), -3);
        }
    }

    private static void noElement() {
        InASackToTheRope x = Edges.lived();
        int[][] none = {{0, -1}, {0, 3}, {0, 160}, {0, Edges.MIN}, {0, Edges.MAX}, {4, 0}, {7, 0}, {-1, 0}, {8, 0},
            {Edges.MIN, 0}, {Edges.MAX, 0}};
        for (int[] n : none) {
            Check.free(x, "element(" + n[0] + ", " + n[1] + ")", () -> x.element(n[0], n[1]), 0);
        }
        Check.free(x, "the last there is", () -> x.element(0, 2), 3);
        x.show(0, 0);
        x.show(1, -1);
        for (int i = 0; i < 3; i++) {
            int last = i;
            Check.free(x, "where a ROW was, and a child is", () -> x.element(0, last), 0);
            Check.free(x, "where a ROW was, and NOTHING is", () -> x.element(1, last), 0);
        }
    }

    private static void show() {
        InASackToTheRope x = Edges.lived();
        Check.free(x, "the first child", () -> x.show(0, 0), 1);
        Check.free(x, "the last child", () -> x.show(7, 2), 1);
        Check.due("over a ROW", x.holds(0), 0);
        Check.due("over NOTHING", x.holds(7), 2);
        Check.free(x, "another over a child", () -> x.show(7, 1), 1);
        Check.due("holds(7)", x.holds(7), 1);
        Check.free(x, "NONE over a child", () -> x.show(7, -1), 0);
        Check.free(x, "NONE over a ROW", () -> x.show(1, -1), 0);
        Check.free(x, "NONE over NOTHING", () -> x.show(7, -1), 0);
        Check.due("holds(7)", x.holds(7), -1);
        Check.due("holds(1)", x.holds(1), -1);
        Check.refused(Edges::lived, "one more than the last child", y -> y.show(0, 3), -1);
        Check.refused(Edges::lived, "one less than NONE", y -> y.show(0, -2), -1);
    }

    private static void holdsNone() {
        InASackToTheRope x = Edges.lived();
        for (int s : new int[] {7, -1, 8, Edges.MIN, Edges.MAX}) {
            Check.free(x, "holds(" + s + ")", () -> x.holds(s), -1);
        }
    }

    private static void holdsNumbers() {
        InASackToTheRope x = Edges.full();
        x.show(0, 0);
        x.show(1, 7);
        x.row(2, 0, 0);
        x.row(3, 3, 160);
        int[] want = {0, 7, 100, 103};
        for (int s = 0; s < want.length; s++) {
            int shelf = s;
            Check.free(x, "holds(" + s + ")", () -> x.holds(shelf), want[s]);
        }
    }

    private static void saysRisk() {
        InASackToTheRope x = Check.told("sack 1 9;child 4 0 9;child 6 0 9;wind 0");
        x.show(0, 0);
        x.show(1, 1);
        // STRIDE 2 and 1: RISK 69 and 68, half of it
        Check.due("RUNNING", x.says(0, 4), 34);
        Check.due("TIPTOE", x.says(1, 6), 34);
        Check.due("TIPTOE as RUNNING", x.says(1, 4), 34);
        Check.due("and it is 20 more for want of BREATH", x.behind(0, 1, 2), 54);
    }

    private static void childOfRisk() {
        InASackToTheRope x = Check.told("child 5 0 5;wind 0");
        Check.due("RISK", x.childOf(0, 7), 5);
        Check.due("and 20", x.behind(0, 1, 2), 25);
        x.ask(3, 60);
        Check.due("RISK", x.childOf(0, 7), 5);
        Check.due("and none", x.behind(0, 1, 2), 5);
    }

    private static void wears() {
        InASackToTheRope x = Edges.full();
        Check.free(x, "from 0 to 7", () -> x.wears(0, 7), 0);
        Check.free(x, "from 7 to 7", () -> x.wears(0, 7), 7);
        Check.free(x, "from 7 to 0", () -> x.wears(7, 0), 7);
        Check.due("SACK", x.childOf(7, 3), 0);
    }

    private static void whatItWas() {
        InASackToTheRope x = Check.told("child 0 0 1");
        Check.due("AHEAD 99", x.ahead(0, 99), 0);
        Check.due("AHEAD 0", x.ahead(0, 0), 99);
        int[] first = {40, 5, 3, 20};
        int[] least = {1, 1, 0, 0};
        int[] most = {200, 20, 9, 60};
        for (int what = 0; what < 4; what++) {
            Check.due("ask the least", x.ask(what, least[what]), first[what]);
            Check.due("ask the most", x.ask(what, most[what]), least[what]);
            Check.due("ask the most again", x.ask(what, most[what]), most[what]);
        }
        Check.due("roll(false)", x.roll(false), 0);
        Check.due("roll(true)", x.roll(true), 0);
        Check.due("roll(true)", x.roll(true), 1);
        Check.due("roll(false)", x.roll(false), 1);
    }

    private static void items() {
        String[] texts = {"up 1", "up 1;up 2", "up 01" + ";up 1".repeat(31)};
        int[] want = {1, 2, 32};
        for (int i = 0; i < texts.length; i++) {
            InASackToTheRope x = NEW.get();
            Check.text(x, 0, texts[i]);
            Check.due("field of " + texts[i], x.field(0), want[i]);
        }
    }

    private static void faultNone() {
        InASackToTheRope x = NEW.get();
        Check.free(x, "none yet", x::fault, -1);
        x.field(0);
        x.field(-1);
        Check.free(x, "no ROW yet", x::fault, -1);
        Check.text(x, 0, "up 0");
        x.field(0);
        Check.free(x, "one", x::fault, 3);
        x.set(0, 3, '1');
        x.field(0);
        Check.free(x, "there was none", x::fault, -1);
        x.row(0, 0, 0);
        x.field(0);
        Check.free(x, "at 0", x::fault, 0);
    }

    private static void faultLatest() {
        InASackToTheRope x = Edges.lived();
        Check.due("FAULT", x.fault(), 3);
        for (int s : new int[] {-1, 8, 4, 7}) {
            x.field(s);
            Check.due("behind field(" + s + ")", x.fault(), 3);
        }
        Check.text(x, 6, "up 1");
        Check.due("the text alone", x.fault(), 3);
        x.restore();
        Check.due("behind restore()", x.fault(), 3);
        x.field(6);
        Check.due("there was none", x.fault(), -1);
        x.field(7);
        Check.due("there was none still", x.fault(), -1);
    }

    private static void seed() {
        InASackToTheRope x = NEW.get();
        int[] seeds = {1, 0, -1, Edges.MIN, Edges.MAX, 1};
        for (int i = 1; i < seeds.length; i++) {
            int v = seeds[i];
            int was = seeds[i - 1];
            Check.free(x, "seed(" + v + ")", () -> x.seed(v), was);
            Check.due("status(8)", x.status(8), v);
        }
    }

    private static void noAct() {
        int[][] none = {{3, 0}, {-1, 0}, {Edges.MIN, 0}, {Edges.MAX, 0}, {0, 3}, {0, -1},
            {0, Edges.MIN}, {0, Edges.MAX}};
        for (int[] n : none) {
            InASackToTheRope x = Edges.lived();
            Check.holds("a TRACE before", x.trace(0) >= 0 && x.status(9) > 0);
            Check.free(x, "act(" + n[0] + ", " + n[1] + ", 7)", () -> x.act(n[0], n[1], 7), 0);
            Check.due("no TRACE then", x.trace(0), -1);
            Check.due("no bodies", x.status(9), 0);
        }
        InASackToTheRope x = Edges.lived();
        Check.due("the last child, the last move", x.act(2, 2, 0) == 0 ? 0 : 1, 1);
        Check.due("its TRACE", x.trace(0), 12);
    }

    private static void noTrace() {
        InASackToTheRope x = Check.told("child 0 0 1");
        Check.free(x, "none yet", () -> x.trace(0), -1);
        x.act(0, 0, 1);
        Check.free(x, "the only one", () -> x.trace(0), 10);
        for (int i : new int[] {1, -1, 20, Edges.MIN, Edges.MAX}) {
            Check.free(x, "trace(" + i + ")", () -> x.trace(i), -1);
        }
        x.act(0, 2, 1);
        x.act(0, 1, 1);
        Check.due("the latest act's", x.trace(0), 11);
        Check.due("not the one's before", x.trace(2), -1);
    }

    private static void imageSizes() {
        InASackToTheRope none = NEW.get();
        Check.free(none, "of none", none::image, 0);
        none.child(0, 0, 1);
        Check.free(none, "back to none", none::restore, 0);
        Check.due("children", none.status(0), 0);
        InASackToTheRope full = Edges.full();
        Check.free(full, "of eight", full::image, 8);
        Check.free(full, "back to eight", full::restore, 8);
        InASackToTheRope x = Check.told("child 0 0 1");
        x.image();
        x.child(0, 0, 2);
        Check.due("a newer image", x.image(), 2);
        x.child(0, 0, 3);
        Check.due("is the one that is kept", x.restore(), 2);
        Check.due("and stays", x.restore(), 2);
    }

    private static void imageOf() {
        InASackToTheRope x = Edges.lived();
        // the image of lived() is of before its race: two children, SEED 1, nobody rolls
        int[] refusals = Check.refusals(x);
        Check.due("children", x.restore(), 2);
        int[] want = {2, 2, 50, 6, 4, 30, 0, 0, 1};
        for (int what = 0; what < want.length; what++) {
            Check.due("status(" + what + ")", x.status(what), want[what]);
        }
        Check.due("AHEAD", x.childOf(0, 4), 0);
        Check.due("WON", x.childOf(0, 8) + x.childOf(1, 8), 0);
        for (int i = 1; i <= 7; i++) {
            Check.due("REFUSALS -" + i, x.status(10 + i), refusals[i]);
        }
        Check.due("the FAULT", x.fault(), 3);
        Check.due("THE TRACE", x.trace(0), 50);
        Check.due("its bodies", x.status(9), 7);
        Check.due("a ROW", x.element(3, 0), 1L << 40);
        Check.due("the image itself", x.restore(), 2);
    }

    private static void restoreShelves() {
        InASackToTheRope x = Edges.full();
        for (int s = 0; s < 8; s++) {
            x.show(s, s);
        }
        x.image();
        Check.due("all eight", x.restore(), 8);
        for (int s = 0; s < 8; s++) {
            Check.due("holds(" + s + ")", x.holds(s), s);
        }
        InASackToTheRope two = Edges.lived();
        two.show(4, 1);
        two.show(5, 2);
        two.restore();
        Check.due("the last there is", two.holds(4), 1);
        Check.due("the first there isn't", two.holds(5), -1);
        Check.due("a ROW", two.holds(0), 100);
        Check.due("NOTHING", two.holds(7), -1);
        Check.due("says so", two.says(5, 0), -3);
        InASackToTheRope none = NEW.get();
        none.image();
        none.child(0, 0, 1);
        none.show(0, 0);
        none.restore();
        Check.due("nobody is left", none.holds(0), -1);
    }

    private static void statusNone() {
        InASackToTheRope x = Edges.lived();
        for (int what : new int[] {-1, 10, 18, 19, Edges.MIN, Edges.MAX}) {
            Check.free(x, "status(" + what + ")", () -> x.status(what), -1);
        }
    }

    private static void statusRefusals() {
        InASackToTheRope x = Edges.full();
        x.row(0, 0, 9);
        x.show(1, 0);
        int[] want = {0, 0, 0, 0, 0, 0, 0};
        int[][] runs = {{0, x.comesIn(8)}, {0, x.start(8, 0)}, {1, x.set(1, 0, 0)}, {1, x.judge(1, 0)},
            {2, x.set(2, 0, 0)}, {2, x.judge(2, 0)}, {3, x.row(0, 0, -1)}, {3, x.judge(0, -1)},
            {4, x.wins(2)}, {4, x.judge(0, 10)}, {5, x.restore()}, {5, x.legs(0, -1)}, {5, x.judge(0, 9)},
            {6, x.sack(1, 1)}, {6, x.row(0, 0, 161)}};
        for (int[] run : runs) {
            want[run[0]]++;
            Check.holds("refused as -" + (run[0] + 1), run[1] == -1 - run[0] || run[1] == -11 - run[0]);
        }
        for (int i = 0; i < 7; i++) {
            Check.due("status(" + (11 + i) + ")", x.status(11 + i), want[i]);
        }
        InASackToTheRope y = NEW.get();
        y.race();
        Check.due("race() without children, as -5", y.status(15), 1);
    }

    private static void statusCounts() {
        InASackToTheRope x = Check.told("child 6 0 1;way 1");
        Check.due("no bodies", x.status(9), 0);
        Check.due("no RACES", x.status(7), 0);
        x.act(0, 2, 1);
        Check.due("ten bodies", x.status(9), 10);
        x.act(0, 0, 1);
        Check.due("three bodies", x.status(9), 3);
        x.race();
        x.summer(30, 0);
        Check.due("RACES", x.status(7), 31);
        x.roll(true);
        Check.due("all roll", x.status(6), 1);
    }
}
