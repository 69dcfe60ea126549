import java.util.function.Supplier;
import java.util.function.ToIntFunction;

/**
 * REFUSALS, call by call: each ground, in the order in which the document looks at them, with a call that
 * has every later ground as well; what it answers, that it is counted once, and that nothing else changes
 * (Check.refused).
 */
final class RefusalsTest {
    private static final int MIN = Edges.MIN;
    private static final int MAX = Edges.MAX;
    private static final Supplier<InASackToTheRope> LIVED = Edges::lived;
    private static final Supplier<InASackToTheRope> FULL = Edges::full;
    private static final Supplier<InASackToTheRope> NEW = InASackToTheRope::new;
    /** Numbers that are no SHELF, and of the lived field no child, no SACK. */
    private static final int[] NO_SHELF = {-1, 8, MIN, MAX};
    private static final int[] NO_CHILD = {-1, 3, MIN, MAX};
    private static final int[] NO_SACK = {-1, 2, MIN, MAX};

    private RefusalsTest() {
    }

    static void all() {
        Check.test("refusals, promise 2: row, -1 -4 -6 -7", RefusalsTest::row);
        Check.test("refusals, promise 3: set, -1 -2 -3 -5", RefusalsTest::set);
        Check.test("refusals, promise 4: copy, -1 -2 -3 -4 -5", RefusalsTest::copy);
        Check.test("refusals, promise 6: show, -1", RefusalsTest::show);
        Check.test("refusals, promise 8: says, -1 -2 -3", RefusalsTest::says);
        Check.test("refusals, promise 9: child, -1 -6 -7", RefusalsTest::child);
        Check.test("refusals, promise 10: sack, -6 -7", RefusalsTest::sack);
        Check.test("refusals, promise 11: childOf, -5", RefusalsTest::childOf);
        Check.test("refusals, promise 12: sackOf, -1 -5", RefusalsTest::sackOf);
        Check.test("refusals, promise 13: wears, -1", RefusalsTest::wears);
        Check.test("refusals, promise 14: ahead, -1 -6", RefusalsTest::ahead);
        Check.test("refusals, promise 15: ask, -6", RefusalsTest::ask);
        Check.test("refusals, promise 17: field, -1 -2 -3 -6", RefusalsTest::field);
        Check.test("refusals, promise 19: behind, -1 -5 -6", RefusalsTest::behind);
        Check.test("refusals, promise 20: comesIn, -1", RefusalsTest::comesIn);
        Check.test("refusals, promise 21: wins, -5", RefusalsTest::wins);
        Check.test("refusals, promise 22: best, -1 -5", RefusalsTest::best);
        Check.test("refusals, promise 23: given, -6 -5 in this order", RefusalsTest::given);
        Check.test("refusals, promise 24: two, -1 -6", RefusalsTest::two);
        Check.test("refusals, promise 25: pair, -5", RefusalsTest::pair);
        Check.test("refusals, promise 26: start, -11", RefusalsTest::start);
        Check.test("refusals, promise 28: heats, -5 -6", RefusalsTest::heats);
        Check.test("refusals, promise 29: legs, -11 -16", RefusalsTest::legs);
        Check.test("refusals, promise 30: wall, -11", RefusalsTest::wall);
        Check.test("refusals, promise 31: judge, -11 -12 -13 -14 -15 -16", RefusalsTest::judge);
        Check.test("refusals, promise 32: meant, -1 -2 -3 -5", RefusalsTest::meant);
        Check.test("refusals, promise 33: worn, -1", RefusalsTest::worn);
        Check.test("refusals, promise 34: race, -15", RefusalsTest::race);
        Check.test("refusals, promise 35: summer, -1 -6", RefusalsTest::summer);
        Check.test("refusals, promise 40: restore, -6", RefusalsTest::restore);
        Check.test("details: -5 for an i of a k is looked at only if that k may be, else it is -6", RefusalsTest::iOfK);
        Check.test("refusals: the empty field has no child, no SACK", RefusalsTest::empty);
    }

    private static void lived(String call, ToIntFunction<InASackToTheRope> run, int number) {
        Check.refused(LIVED, call, run, number);
    }

    private static void row() {
        for (int s : NO_SHELF) {
            lived("row(" + s + ", 0, 1)", x -> x.row(s, 0, 1), -1);
            lived("row(" + s + ", 4, -1)", x -> x.row(s, 4, -1), -1);
            lived("row(" + s + ", 4, 161)", x -> x.row(s, 4, 161), -1);
        }
        for (int n : new int[] {-1, MIN}) {
            lived("row(0, 0, " + n + ")", x -> x.row(0, 0, n), -4);
            lived("row(0, 4, " + n + ")", x -> x.row(0, 4, n), -4);
        }
        for (int sort : new int[] {-1, 4, MIN, MAX}) {
            lived("row(0, " + sort + ", 1)", x -> x.row(0, sort, 1), -6);
            lived("row(0, " + sort + ", 161)", x -> x.row(0, sort, 161), -6);
        }
        lived("row(0, 0, 161)", x -> x.row(0, 0, 161), -7);
        lived("row(4, 3, max)", x -> x.row(4, 3, MAX), -7);
        lived("row(7, 3, 161)", x -> x.row(7, 3, 161), -7);
    }

    private static void set() {
        for (int s : NO_SHELF) {
            lived("set(" + s + ", 0, 1)", x -> x.set(s, 0, 1), -1);
            lived("set(" + s + ", -1, 1)", x -> x.set(s, -1, 1), -1);
        }
        lived("set(4, 0, 1)", x -> x.set(4, 0, 1), -2);
        lived("set(4, -1, 1)", x -> x.set(4, -1, 1), -2);
        lived("set(7, 0, 1)", x -> x.set(7, 0, 1), -3);
        lived("set(7, -1, 1)", x -> x.set(7, -1, 1), -3);
        for (int i : new int[] {-1, 3, 160, MIN, MAX}) {
            lived("set(0, " + i + ", 1)", x -> x.set(0, i, 1), -5);
        }
        Check.refused(() -> {
            InASackToTheRope x = new InASackToTheRope();
            x.row(0, 0, 0);
            return x;
        }, "set in a ROW of none", x -> x.set(0, 0, 1), -5);
    }

    private static void copy() {
        for (int s : NO_SHELF) {
            lived("copy(" + s + ", 4, -1, -1, -1)", x -> x.copy(s, 4, -1, -1, -1), -1);
            lived("copy(4, " + s + ", -1, -1, -1)", x -> x.copy(4, s, -1, -1, -1), -1);
            lived("copy(" + s + ", 7, 0, 0, 1)", x -> x.copy(s, 7, 0, 0, 1), -1);
            lived("copy(0, " + s + ", 0, 0, 1)", x -> x.copy(0, s, 0, 0, 1), -1);
        }
        lived("a child and NOTHING", x -> x.copy(4, 7, -1, -1, -1), -2);
        lived("NOTHING and a child", x -> x.copy(7, 4, -1, -1, -1), -2);
        lived("a child and a ROW", x -> x.copy(4, 0, 0, 0, 1), -2);
        lived("a ROW and a child", x -> x.copy(0, 4, 0, 0, 1), -2);
        lived("two children", x -> x.copy(4, 5, 0, 0, 1), -2);
        lived("two SORTS", x -> x.copy(0, 1, -1, -1, -1), -2);
        lived("two SORTS, bytes and longs", x -> x.copy(3, 0, 0, 0, 0), -2);
        lived("NOTHING and a ROW", x -> x.copy(7, 0, -1, -1, -1), -3);
        lived("a ROW and NOTHING", x -> x.copy(0, 7, -1, -1, -1), -3);
        lived("NOTHING twice", x -> x.copy(7, 7, -1, -1, -1), -3);
        for (int n : new int[] {-1, MIN}) {
            lived("n " + n, x -> x.copy(0, 0, -1, -1, n), -4);
            lived("n " + n, x -> x.copy(0, 0, 0, 0, n), -4);
        }
        // the ROW has elements 0, 1, 2
        int[][] beyond = {{-1, 0, 1}, {0, -1, 1}, {-1, 0, 0}, {0, -1, 0}, {3, 0, 1}, {0, 3, 1}, {4, 0, 0}, {0, 4, 0},
            {0, 0, 4}, {1, 0, 3}, {0, 1, 3}, {2, 0, 2}, {0, 2, 2}, {MAX, 0, 1}, {0, MAX, 1}, {1, 0, MAX}, {0, 1, MAX},
            {MAX, MAX, MAX}, {MIN, 0, 1}, {0, MIN, 1}, {MIN, 0, MAX}};
        for (int[] b : beyond) {
            lived("copy(0, 0, " + b[0] + ", " + b[1] + ", " + b[2] + ")", x -> x.copy(0, 0, b[0], b[1], b[2]), -5);
        }
    }

    private static void show() {
        for (int s : NO_SHELF) {
            lived("show(" + s + ", 0)", x -> x.show(s, 0), -1);
            lived("show(" + s + ", NONE)", x -> x.show(s, -1), -1);
        }
        for (int child : new int[] {-2, 3, 8, MIN, MAX}) {
            lived("show(0, " + child + ")", x -> x.show(0, child), -1);
        }
    }

    private static void says() {
        for (int s : NO_SHELF) {
            lived("says(" + s + ", 0)", x -> x.says(s, 0), -1);
        }
        for (int kind : new int[] {-1, 7, MIN, MAX}) {
            lived("a ROW as " + kind, x -> x.says(0, kind), -1);
            lived("a child as " + kind, x -> x.says(4, kind), -1);
            lived("NOTHING as " + kind, x -> x.says(7, kind), -1);
        }
        lived("a ROW", x -> x.says(0, 0), -2);
        for (int kind : new int[] {1, 2, 3, 5, 6}) {
            lived("RUNNING as " + kind, x -> x.says(4, kind), -2);
        }
        for (int kind : new int[] {2, 4, 5, 6}) {
            lived("CALM as " + kind, x -> x.says(5, kind), -2);
        }
        lived("NOTHING", x -> x.says(7, 0), -3);
        lived("NOTHING", x -> x.says(7, 6), -3);
    }

    private static void child() {
        for (int kind : new int[] {-1, 7, MIN, MAX}) {
            Check.refused(FULL, "KIND " + kind, x -> x.child(kind, 0, 1), -1);
            Check.refused(FULL, "KIND " + kind + ", a 10", x -> x.child(kind, 10, 0), -1);
        }
        for (int a : new int[] {-1, 10, MIN, MAX}) {
            lived("a " + a, x -> x.child(0, a, 1), -6);
            Check.refused(FULL, "a ninth of a " + a, x -> x.child(0, a, 1), -6);
        }
        for (int legs : new int[] {0, 10, MIN, MAX}) {
            lived("LEGS " + legs, x -> x.child(0, 0, legs), -6);
            Check.refused(FULL, "a ninth of LEGS " + legs, x -> x.child(0, 0, legs), -6);
        }
        Check.refused(FULL, "a ninth", x -> x.child(0, 0, 1), -7);
        Check.refused(FULL, "a ninth", x -> x.child(6, 9, 9), -7);
    }

    private static void sack() {
        for (int length : new int[] {0, 10, MIN, MAX}) {
            lived("LENGTH " + length, x -> x.sack(length, 0), -6);
            Check.refused(FULL, "a ninth of LENGTH " + length, x -> x.sack(length, 0), -6);
        }
        for (int holes : new int[] {-1, 10, MIN, MAX}) {
            lived("HOLES " + holes, x -> x.sack(1, holes), -6);
            Check.refused(FULL, "a ninth of HOLES " + holes, x -> x.sack(1, holes), -6);
        }
        Check.refused(FULL, "a ninth", x -> x.sack(1, 0), -7);
        Check.refused(FULL, "a ninth", x -> x.sack(9, 9), -7);
    }

    private static void childOf() {
        for (int child : NO_CHILD) {
            lived("childOf(" + child + ", 0)", x -> x.childOf(child, 0), -5);
            lived("childOf(" + child + ", 9)", x -> x.childOf(child, 9), -5);
        }
        for (int what : new int[] {-1, 9, MIN, MAX}) {
            lived("childOf(0, " + what + ")", x -> x.childOf(0, what), -5);
        }
        Edges.taken(LIVED.get(), "childOf(2, 0)", x -> x.childOf(2, 0));
        Edges.taken(LIVED.get(), "childOf(2, 8)", x -> x.childOf(2, 8));
    }

    private static void sackOf() {
        for (int sack : NO_SACK) {
            lived("sackOf(" + sack + ", 0)", x -> x.sackOf(sack, 0), -1);
            lived("sackOf(" + sack + ", 2)", x -> x.sackOf(sack, 2), -1);
        }
        for (int what : new int[] {-1, 2, MIN, MAX}) {
            lived("sackOf(1, " + what + ")", x -> x.sackOf(1, what), -5);
        }
        Edges.taken(LIVED.get(), "sackOf(1, 0)", x -> x.sackOf(1, 0));
        Edges.taken(LIVED.get(), "sackOf(1, 1)", x -> x.sackOf(1, 1));
    }

    private static void wears() {
        for (int child : NO_CHILD) {
            lived("wears(" + child + ", 0)", x -> x.wears(child, 0), -1);
        }
        for (int sack : NO_SACK) {
            lived("wears(0, " + sack + ")", x -> x.wears(0, sack), -1);
        }
        Check.refused(() -> Check.told("child 0 0 1"), "without SACKS", x -> x.wears(0, 0), -1);
        Edges.taken(LIVED.get(), "wears(2, 1)", x -> x.wears(2, 1));
        Edges.taken(FULL.get(), "wears(7, 7)", x -> x.wears(7, 7));
    }

    private static void ahead() {
        for (int child : NO_CHILD) {
            lived("ahead(" + child + ", 0)", x -> x.ahead(child, 0), -1);
            lived("ahead(" + child + ", 100)", x -> x.ahead(child, 100), -1);
        }
        for (int v : new int[] {-1, 100, MIN, MAX}) {
            lived("ahead(0, " + v + ")", x -> x.ahead(0, v), -6);
        }
    }

    private static void ask() {
        for (int what : new int[] {-1, 4, MIN, MAX}) {
            lived("ask(" + what + ", 1)", x -> x.ask(what, 1), -6);
        }
        int[][] not = {{0, 0}, {0, 201}, {1, 0}, {1, 21}, {2, -1}, {2, 10}, {3, -1}, {3, 61}};
        for (int[] n : not) {
            lived("ask(" + n[0] + ", " + n[1] + ")", x -> x.ask(n[0], n[1]), -6);
        }
        for (int what = 0; what < 4; what++) {
            int w = what;
            lived("ask(" + w + ", min)", x -> x.ask(w, MIN), -6);
            lived("ask(" + w + ", max)", x -> x.ask(w, MAX), -6);
        }
    }

    private static void field() {
        for (int s : NO_SHELF) {
            lived("field(" + s + ")", x -> x.field(s), -1);
        }
        lived("a child", x -> x.field(4), -2);
        lived("NOTHING", x -> x.field(7), -3);
        lived("a FAULT", x -> x.field(6), -6);
        Check.refused(() -> {
            InASackToTheRope x = new InASackToTheRope();
            x.row(0, 0, 0);
            x.field(0);
            return x;
        }, "a ROW of none", x -> x.field(0), -6);
    }

    private static void behind() {
        for (int child : NO_CHILD) {
            lived("behind(" + child + ", 0, 0)", x -> x.behind(child, 0, 0), -1);
            lived("behind(" + child + ", -1, 5)", x -> x.behind(child, -1, 5), -1);
        }
        for (int what : new int[] {-1, 5, MIN, MAX}) {
            lived("behind(0, 0, " + what + ")", x -> x.behind(0, 0, what), -5);
            lived("behind(0, -1, " + what + ")", x -> x.behind(0, -1, what), -5);
            lived("behind(0, 1000, " + what + ")", x -> x.behind(0, 1000, what), -5);
        }
        for (int n : new int[] {-1, 1000, MIN, MAX}) {
            lived("behind(2, " + n + ", 0)", x -> x.behind(2, n, 0), -6);
            lived("behind(2, " + n + ", 4)", x -> x.behind(2, n, 4), -6);
        }
    }

    private static void comesIn() {
        for (int child : NO_CHILD) {
            lived("comesIn(" + child + ")", x -> x.comesIn(child), -1);
        }
    }

    private static void wins() {
        for (int what : new int[] {-1, 2, MIN, MAX}) {
            lived("wins(" + what + ")", x -> x.wins(what), -5);
            Check.refused(NEW, "no children, wins(" + what + ")", x -> x.wins(what), -5);
        }
        Check.refused(NEW, "no children, wins(0)", x -> x.wins(0), -5);
        Check.refused(NEW, "no children, wins(1)", x -> x.wins(1), -5);
    }

    private static void best() {
        for (int child : NO_CHILD) {
            lived("best(" + child + ", 0)", x -> x.best(child, 0), -1);
            lived("best(" + child + ", 4)", x -> x.best(child, 4), -1);
        }
        for (int what : new int[] {-1, 4, MIN, MAX}) {
            lived("best(0, " + what + ")", x -> x.best(0, what), -5);
        }
        Supplier<InASackToTheRope> bare = () -> Check.told("child 0 0 1");
        Check.refused(bare, "BEST SACK without SACKS", x -> x.best(0, 2), -5);
        Check.refused(bare, "without a child and SACKS", x -> x.best(1, 2), -1);
        for (int what : new int[] {0, 1, 3}) {
            Edges.taken(bare.get(), "best(0, " + what + ") without SACKS", x -> x.best(0, what));
        }
    }

    private static void given() {
        for (int law : new int[] {-1, 3, MIN, MAX}) {
            lived("given(" + law + ", 2, NONE)", x -> x.given(law, 2, -1), -6);
            lived("given(" + law + ", 2, 2)", x -> x.given(law, 2, 2), -6);
        }
        for (int k : new int[] {0, 6, -1, MIN, MAX}) {
            Check.refused(FULL, "given(0, " + k + ", NONE)", x -> x.given(0, k, -1), -6);
            Check.refused(FULL, "given(0, " + k + ", 9)", x -> x.given(0, k, 9), -6);
        }
        lived("more than SACKS", x -> x.given(0, 3, -1), -6);
        lived("more than SACKS, and no such i", x -> x.given(0, 3, 3), -6);
        for (int i : new int[] {-2, 2, MIN, MAX}) {
            lived("given(0, 2, " + i + ")", x -> x.given(0, 2, i), -5);
            lived("given(2, 2, " + i + ")", x -> x.given(2, 2, i), -5);
        }
        Check.refused(FULL, "given(1, 5, 5)", x -> x.given(1, 5, 5), -5);
        Check.refused(FULL, "given(1, 1, 1)", x -> x.given(1, 1, 1), -5);
        Edges.taken(FULL.get(), "given(1, 1, 0)", x -> x.given(1, 1, 0));
        Edges.taken(FULL.get(), "given(2, 5, 4)", x -> x.given(2, 5, 4));
        Edges.taken(FULL.get(), "given(0, 5, NONE)", x -> x.given(0, 5, -1));
    }

    private static void two() {
        for (int child : NO_CHILD) {
            lived("two(" + child + ", 0, 0)", x -> x.two(child, 0, 0), -1);
            lived("two(0, " + child + ", 0)", x -> x.two(0, child, 0), -1);
            lived("two(" + child + ", " + child + ", 0)", x -> x.two(child, child, 0), -1);
        }
        for (int sack : NO_SACK) {
            lived("two(0, 1, " + sack + ")", x -> x.two(0, 1, sack), -1);
            lived("two(1, 1, " + sack + ")", x -> x.two(1, 1, sack), -1);
        }
        lived("two(0, 0, 0)", x -> x.two(0, 0, 0), -6);
        lived("two(2, 2, 1)", x -> x.two(2, 2, 1), -6);
    }

    private static void pair() {
        Check.refused(NEW, "nobody", x -> x.pair(), -5);
        Check.refused(() -> Check.told("child 0 0 1;sack 1 1"), "one child", x -> x.pair(), -5);
        Check.refused(() -> Check.told("child 0 0 1;child 0 0 1"), "no SACKS", x -> x.pair(), -5);
        Check.refused(() -> Check.told(Edges.EIGHT_CHILDREN), "eight, no SACKS", x -> x.pair(), -5);
        Edges.taken(Check.told("child 0 0 1;child 0 0 1;sack 1 1"), "pair()", x -> x.pair());
    }

    private static void start() {
        for (int child : NO_CHILD) {
            lived("start(" + child + ", 0)", x -> x.start(child, 0), -11);
            lived("start(0, " + child + ")", x -> x.start(0, child), -11);
            lived("start(" + child + ", " + child + ")", x -> x.start(child, child), -11);
        }
    }

    private static void heats() {
        for (int what : new int[] {-1, 2, MIN, MAX}) {
            lived("heats(2, " + what + ")", x -> x.heats(2, what), -5);
            lived("heats(1, " + what + ")", x -> x.heats(1, what), -5);
        }
        Check.refused(NEW, "nobody, heats(2, 0)", x -> x.heats(2, 0), -5);
        Check.refused(NEW, "nobody, heats(5, 0)", x -> x.heats(5, 0), -5);
        for (int k : new int[] {1, 5, 0, -1, MIN, MAX}) {
            lived("heats(" + k + ", 0)", x -> x.heats(k, 0), -6);
            lived("heats(" + k + ", 1)", x -> x.heats(k, 1), -6);
        }
    }

    private static void legs() {
        for (int child : NO_CHILD) {
            lived("legs(" + child + ", 1)", x -> x.legs(child, 1), -11);
            lived("legs(" + child + ", -1)", x -> x.legs(child, -1), -11);
        }
        lived("legs(0, -1)", x -> x.legs(0, -1), -16);
        lived("legs(2, min)", x -> x.legs(2, MIN), -16);
    }

    private static void wall() {
        for (int child : NO_CHILD) {
            lived("wall(" + child + ")", x -> x.wall(child), -11);
        }
    }

    private static void judge() {
        for (int s : NO_SHELF) {
            lived("judge(" + s + ", 0)", x -> x.judge(s, 0), -11);
            lived("judge(" + s + ", -1)", x -> x.judge(s, -1), -11);
            lived("judge(" + s + ", 9)", x -> x.judge(s, 9), -11);
        }
        for (int n : new int[] {0, -1, 9}) {
            lived("judge(4, " + n + ")", x -> x.judge(4, n), -12);
            lived("judge(7, " + n + ")", x -> x.judge(7, n), -13);
        }
        lived("judge(0, -1)", x -> x.judge(0, -1), -14);
        lived("judge(0, min)", x -> x.judge(0, MIN), -14);
        for (int n : new int[] {4, 8, 9, MAX}) {
            lived("judge(0, " + n + ")", x -> x.judge(0, n), -15);
        }
        Supplier<InASackToTheRope> long9 = () -> {
            InASackToTheRope x = Edges.full();
            x.row(0, 0, 9);
            x.row(1, 0, 160);
            return x;
        };
        Check.refused(long9, "judge(0, 9)", x -> x.judge(0, 9), -16);
        Check.refused(long9, "judge(0, 10)", x -> x.judge(0, 10), -15);
        Check.refused(long9, "judge(1, 160)", x -> x.judge(1, 160), -16);
        Check.refused(long9, "judge(1, 161)", x -> x.judge(1, 161), -15);
    }

    private static void meant() {
        for (int s : NO_SHELF) {
            lived("meant(" + s + ")", x -> x.meant(s), -1);
        }
        lived("meant(4)", x -> x.meant(4), -2);
        lived("meant(7)", x -> x.meant(7), -3);
        lived("meant(1)", x -> x.meant(1), -5);
        Edges.taken(LIVED.get(), "meant(0)", x -> x.meant(0));
        Check.refused(() -> {
            InASackToTheRope x = Check.told("child 0 0 1");
            x.row(0, 0, 0);
            return x;
        }, "a ROW of none", x -> x.meant(0), -5);
    }

    private static void worn() {
        for (int child : NO_CHILD) {
            lived("worn(" + child + ", 20)", x -> x.worn(child, 20), -1);
            lived("worn(" + child + ", -1)", x -> x.worn(child, -1), -1);
        }
    }

    private static void race() {
        Check.refused(NEW, "race()", x -> x.race(), -15);
        Check.refused(() -> Check.told("sack 1 1;way 7"), "race() with a SACK", x -> x.race(), -15);
    }

    private static void summer() {
        for (int child : NO_CHILD) {
            lived("summer(1, " + child + ")", x -> x.summer(1, child), -1);
            lived("summer(0, " + child + ")", x -> x.summer(0, child), -1);
            lived("summer(31, " + child + ")", x -> x.summer(31, child), -1);
        }
        for (int n : new int[] {0, 31, -1, MIN, MAX}) {
            lived("summer(" + n + ", 0)", x -> x.summer(n, 0), -6);
        }
    }

    private static void restore() {
        Check.refused(NEW, "restore()", x -> x.restore(), -6);
        Check.refused(FULL, "restore() of the full field", x -> x.restore(), -6);
    }

    private static void iOfK() {
        for (int i : new int[] {-2, -1, 0, 2, 3, MAX}) {
            lived("i " + i + " of k 0", x -> x.given(0, 0, i), -6);
            lived("i " + i + " of k 3", x -> x.given(0, 3, i), -6);
            lived("i " + i + " by law 3", x -> x.given(3, 2, i), -6);
        }
        lived("i 2 of k 2", x -> x.given(0, 2, 2), -5);
        lived("i 1 of k 1", x -> x.given(0, 1, 1), -5);
        Edges.taken(LIVED.get(), "i 1 of k 2", x -> x.given(0, 2, 1));
    }

    private static void empty() {
        Supplier<InASackToTheRope> make = NEW;
        Check.refused(make, "childOf(0, 0)", x -> x.childOf(0, 0), -5);
        Check.refused(make, "sackOf(0, 0)", x -> x.sackOf(0, 0), -1);
        Check.refused(make, "wears(0, 0)", x -> x.wears(0, 0), -1);
        Check.refused(make, "ahead(0, 0)", x -> x.ahead(0, 0), -1);
        Check.refused(make, "show(0, 0)", x -> x.show(0, 0), -1);
        Check.refused(make, "behind(0, 0, 0)", x -> x.behind(0, 0, 0), -1);
        Check.refused(make, "comesIn(0)", x -> x.comesIn(0), -1);
        Check.refused(make, "best(0, 0)", x -> x.best(0, 0), -1);
        Check.refused(make, "given(0, 1, NONE)", x -> x.given(0, 1, -1), -6);
        Check.refused(make, "two(0, 0, 0)", x -> x.two(0, 0, 0), -1);
        Check.refused(make, "start(0, 0)", x -> x.start(0, 0), -11);
        Check.refused(make, "legs(0, 0)", x -> x.legs(0, 0), -11);
        Check.refused(make, "wall(0)", x -> x.wall(0), -11);
        Check.refused(make, "worn(0, 0)", x -> x.worn(0, 0), -1);
        Check.refused(make, "summer(1, 0)", x -> x.summer(1, 0), -1);
        Check.refused(make, "set(0, 0, 0)", x -> x.set(0, 0, 0), -3);
        Check.refused(make, "copy(0, 0, 0, 0, 0)", x -> x.copy(0, 0, 0, 0, 0), -3);
        Check.refused(make, "says(0, 0)", x -> x.says(0, 0), -3);
        Check.refused(make, "field(0)", x -> x.field(0), -3);
        Check.refused(make, "judge(0, 0)", x -> x.judge(0, 0), -13);
        Check.refused(make, "meant(0)", x -> x.meant(0), -3);
    }
}
