/** Promises 37 and 38: the moves of children, and which bodies ran. */
final class MovesTest {
    private static final int HOPPER = 0;
    private static final int EVEN = 1;
    private static final int LONG = 2;
    private static final int CALM = 3;
    private static final int RUNNING = 4;
    private static final int GREEDY = 5;
    private static final int TIPTOE = 6;

    private MovesTest() {
    }

    static void all() {
        Check.test("37 act, hops", MovesTest::hops);
        Check.test("37 act, falls", MovesTest::falls);
        Check.test("37 act, rises", MovesTest::rises);
        Check.test("37 act, no such", MovesTest::noSuch);
        Check.test("38 trace", MovesTest::trace);
        Check.test("38 trace, the latest", MovesTest::latest);
    }

    /** Seven children of the KIND, each with another a, so that the last has number 6 and a 7. */
    private static InASackToTheRope kin(int kind) {
        InASackToTheRope x = new InASackToTheRope();
        for (int c = 0; c < 7; c++) {
            Check.due("child", x.child(kind, c + 1, 5), c);
        }
        return x;
    }

    private interface Move {
        int of(int x, int m, int k);
    }

    private static void due(int kind, int move, Move want) {
        InASackToTheRope x = kin(kind);
        int[] tries = {0, 1, 7, -7, 1000, Integer.MAX_VALUE, Integer.MIN_VALUE, 1 << 30, -123456789};
        for (int child = 0; child < 7; child++) {
            for (int v : tries) {
                Check.due("KIND " + kind + " act(" + child + ", " + move + ", " + v + ")",
                        x.act(child, move, v), want.of(v, child, child + 1));
            }
        }
    }

    private static void hops() {
        due(HOPPER, 0, (x, m, k) -> x + m);
        due(EVEN, 0, (x, m, k) -> x + m + k);
        due(LONG, 0, (x, m, k) -> x + m);
        due(CALM, 0, (x, m, k) -> x + m + k);
        due(RUNNING, 0, (x, m, k) -> x);
        due(GREEDY, 0, (x, m, k) -> x + m);
        due(TIPTOE, 0, (x, m, k) -> 2 * x);
    }

    private static void falls() {
        due(HOPPER, 1, (x, m, k) -> (x + m) * 2);
        due(EVEN, 1, (x, m, k) -> (x + m + k) * 2);
        due(LONG, 1, (x, m, k) -> (x + m) * 6);
        due(CALM, 1, (x, m, k) -> (x + 1 + m + k) * 2);
        due(RUNNING, 1, (x, m, k) -> x * 2);
        due(GREEDY, 1, (x, m, k) -> (x + m) * 6);
        due(TIPTOE, 1, (x, m, k) -> (x - k) * 4);
    }

    private static void rises() {
        due(HOPPER, 2, (x, m, k) -> (x + m) * 2 ^ x - k + m);
        due(EVEN, 2, (x, m, k) -> (x + m + k) * 2 ^ x + m);
        due(LONG, 2, (x, m, k) -> (x + m) * 6 ^ x - k + m);
        due(CALM, 2, (x, m, k) -> (x + 1 + m + k) * 2 ^ x + m);
        due(RUNNING, 2, (x, m, k) -> -(x * 2 ^ x - k));
        due(GREEDY, 2, (x, m, k) -> (x + m) * 6 ^ x - k + m ^ 5);
        due(TIPTOE, 2, (x, m, k) -> -((x - k) * 4 ^ (x - k) * 2));
    }

    private static void noSuch() {
        InASackToTheRope x = kin(HOPPER);
        int[][] none = {{7, 0}, {-1, 0}, {0, 3}, {0, -1}, {Integer.MAX_VALUE, Integer.MIN_VALUE}};
        for (int[] n : none) {
            x.act(1, 2, 5);
            Check.due("bodies ran", x.status(9), 4);
            Check.free(x, "act(" + n[0] + ", " + n[1] + ", 5)", () -> x.act(n[0], n[1], 5), 0);
            Check.due("no TRACE then", x.trace(0), -1);
            Check.due("none ran", x.status(9), 0);
        }
    }

    private static void traced(int kind, int move, int... bodies) {
        InASackToTheRope x = kin(kind);
        x.act(3, move, 11);
        for (int i = 0; i < bodies.length; i++) {
            Check.due("KIND " + kind + " move " + move + " trace(" + i + ")", x.trace(i), bodies[i]);
        }
        Check.due("no more", x.trace(bodies.length), -1);
        Check.due("status(9)", x.status(9), bodies.length);
    }

    private static void trace() {
        traced(HOPPER, 0, 10);
        traced(HOPPER, 1, 11, 10);
        traced(HOPPER, 2, 12, 11, 10, 10);
        traced(EVEN, 0, 20, 10);
        traced(EVEN, 1, 11, 20, 10);
        traced(EVEN, 2, 12, 11, 20, 10, 20, 10);
        traced(LONG, 0, 10);
        traced(LONG, 1, 30, 11, 10);
        traced(LONG, 2, 12, 30, 11, 10, 10);
        traced(CALM, 0, 20, 10);
        traced(CALM, 1, 40, 11, 20, 10);
        traced(CALM, 2, 12, 40, 11, 20, 10, 20, 10);
        traced(RUNNING, 0, 51, 10);
        traced(RUNNING, 1, 11, 51, 10);
        traced(RUNNING, 2, 50, 12, 11, 51, 10, 51, 10);
        traced(GREEDY, 0, 10);
        traced(GREEDY, 1, 30, 11, 10);
        traced(GREEDY, 2, 60, 12, 30, 11, 10, 10);
        traced(TIPTOE, 0, 70, 51, 10);
        traced(TIPTOE, 1, 71, 11, 70, 51, 10);
        traced(TIPTOE, 2, 50, 12, 71, 11, 70, 51, 10, 70, 51, 10);
    }

    private static void latest() {
        InASackToTheRope x = kin(TIPTOE);
        Check.due("none yet", x.trace(0), -1);
        x.act(0, 2, 1);
        x.act(0, 0, 1);
        Check.due("the latest", x.trace(0), 70);
        Check.due("not the one before", x.trace(3), -1);
        Check.free(x, "trace(-1)", () -> x.trace(-1), -1);
        Check.free(x, "trace(20)", () -> x.trace(20), -1);
        Check.free(x, "trace(max)", () -> x.trace(Integer.MAX_VALUE), -1);
        x.image();
        x.act(0, 1, 1);
        x.restore();
        Check.due("the image doesn't have it", x.trace(0), 71);
        Check.due("nor how many", x.status(9), 5);
    }
}
