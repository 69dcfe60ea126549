import java.util.Random;

/** Promises 11, 19 to 35 over many fields, held against the oracle. */
final class OracleTest {
    private static final int FIELDS = 400;

    private OracleTest() {
    }

    static void all() {
        Check.test("11, 19, 20, 30 by the oracle", () -> over(1, OracleTest::alone));
        Check.test("21, 22 by the oracle", () -> over(2, OracleTest::best));
        Check.test("23 by the oracle", () -> over(3, OracleTest::given));
        Check.test("24, 25 by the oracle", () -> over(4, OracleTest::two));
        Check.test("26, 27, 28, 29 by the oracle", () -> over(5, OracleTest::start));
        Check.test("31, 32, 33 by the oracle", () -> over(6, OracleTest::judged));
        Check.test("34, 35 by the oracle", () -> over(7, OracleTest::truth));
    }

    private interface Question {
        void ask(InASackToTheRope x, Oracle o, Random random);
    }

    /** The same fields in every run, since the seed is told. */
    private static void over(int seed, Question question) {
        Random random = new Random(seed);
        for (int i = 0; i < FIELDS; i++) {
            InASackToTheRope x = any(random);
            question.ask(x, new Oracle(x), random);
        }
    }

    private static InASackToTheRope any(Random random) {
        InASackToTheRope x = new InASackToTheRope();
        boolean alike = random.nextInt(4) == 0;
        int sacks = random.nextInt(9);
        for (int s = 0; s < sacks; s++) {
            x.sack(1 + random.nextInt(9), random.nextInt(10));
        }
        int children = 1 + random.nextInt(8);
        for (int c = 0; c < children; c++) {
            x.child(random.nextInt(7), random.nextInt(10), alike ? 5 : 1 + random.nextInt(9));
            if (random.nextInt(3) == 0) {
                x.ahead(c, random.nextInt(100));
            }
            if (sacks > 0 && random.nextInt(3) == 0) {
                x.wears(c, random.nextInt(sacks));
            }
        }
        if (random.nextInt(3) > 0) {
            x.ask(0, 1 + random.nextInt(200));
            x.ask(1, 1 + random.nextInt(20));
            x.ask(2, random.nextInt(10));
            x.ask(3, random.nextInt(61));
        }
        x.roll(random.nextInt(3) == 0);
        x.seed(random.nextInt());
        return x;
    }

    private static void alone(InASackToTheRope x, Oracle o, Random random) {
        for (int c = 0; c < o.children(); c++) {
            Oracle.One one = o.new One(c);
            Check.due("STRIDE", x.childOf(c, 5), one.stride());
            Check.due("PUFF", x.childOf(c, 6), one.puff());
            Check.due("RISK", x.childOf(c, 7), one.risk());
            Check.due("comesIn", x.comesIn(c), one.in());
            Check.due("wall", x.wall(c), one.wall);
            for (int i = 0; i < 4; i++) {
                int n = i < 3 ? random.nextInt(30) : random.nextInt(1000);
                one.behind(n);
                int[] want = {one.at, one.breath, one.wobble, one.down, one.fell};
                for (int what = 0; what < 5; what++) {
                    Check.due("behind " + n + ", " + what, x.behind(c, n, what), want[what]);
                }
            }
        }
    }

    private static void best(InASackToTheRope x, Oracle o, Random random) {
        int first = 0;
        for (int c = 0; c < o.children(); c++) {
            first = o.in(c) < o.in(first) ? c : first;
        }
        int next = 1000;
        for (int c = 0; c < o.children(); c++) {
            next = c == first ? next : Math.min(next, o.in(c));
        }
        Check.due("wins(0)", x.wins(0), first);
        Check.due("wins(1)", x.wins(1), next == 1000 ? 0 : next - o.in(first));
        for (int c = 0; c < o.children(); c++) {
            int kind = 0;
            for (int k = 0; k < 7; k++) {
                kind = o.inAs(c, k) < o.inAs(c, kind) ? k : kind;
            }
            int sack = o.lengths.length == 0 ? -5 : 0;
            for (int s = 0; s < o.lengths.length; s++) {
                sack = o.inSack(c, s) < o.inSack(c, sack) ? s : sack;
            }
            Check.due("HOW", x.best(c, 0), kind);
            Check.due("SLOW", x.best(c, 1), o.inAs(c, 3) < o.inAs(c, 5) ? 1 : 0);
            Check.due("BEST SACK", x.best(c, 2), sack);
            Check.due("ROLLS", x.best(c, 3), o.inRolling(c, true) < o.inRolling(c, false) ? 1 : 0);
        }
    }

    private static void given(InASackToTheRope x, Oracle o, Random random) {
        int k = 1 + random.nextInt(5);
        for (int law = 0; law < 3; law++) {
            if (k > o.children() || k > o.lengths.length) {
                Check.due("given", x.given(law, k, 0), -6);
            } else {
                int[] want = o.given(law, k);
                for (int i = -1; i < k; i++) {
                    Check.due("given(" + law + ", " + k + ", " + i + ")", x.given(law, k, i), want[i + 1]);
                }
            }
        }
    }

    private static void two(InASackToTheRope x, Oracle o, Random random) {
        int pair = -5;
        int least = 1000;
        for (int c = 0; c < o.children(); c++) {
            for (int other = 0; other < o.children(); other++) {
                if (c != other && o.lengths.length > 0) {
                    int sack = random.nextInt(o.lengths.length);
                    Check.due("two", x.two(c, other, sack), o.two(c, other, sack));
                    int in = o.two(c, other, o.sacks[c]);
                    if (c < other && in < least) {
                        least = in;
                        pair = 100 * c + other;
                    }
                }
            }
        }
        Check.due("pair", x.pair(), pair);
    }

    private static void start(InASackToTheRope x, Oracle o, Random random) {
        int winner = 0;
        for (int c = 0; c < o.children(); c++) {
            winner = o.in(c) < o.in(winner) ? c : winner;
        }
        int sum = 0;
        for (int c = 0; c < o.children(); c++) {
            int start = o.start(c, winner);
            sum = start < 0 || sum < 0 ? -1 : sum + start;
            int other = random.nextInt(o.children());
            Check.due("start", x.start(c, other), o.start(c, other));
            int v = random.nextInt(60);
            int legs = -1;
            for (int l = 9; l >= 1; l--) {
                legs = o.inLegs(c, l) <= v ? l : legs;
            }
            Check.due("legs", x.legs(c, v), legs);
        }
        Check.due("atOnce", x.atOnce(), sum);
        for (int k = 2; k <= 4; k++) {
            int[] want = o.heats(k);
            Check.due("heats(" + k + ", 0)", x.heats(k, 0), want[0]);
            Check.due("heats(" + k + ", 1)", x.heats(k, 1), want[1]);
        }
    }

    private static void judged(InASackToTheRope x, Oracle o, Random random) {
        long[] order = new long[8];
        for (int i = 0; i < 8; i++) {
            order[i] = i < 6 ? bestBut(o, order, i) : random.nextInt(9) - 1;
        }
        if (random.nextBoolean()) {
            order[random.nextInt(8)] = random.nextInt(9);
        }
        Check.row(x, 0, 2, order);
        int wrong = -1;
        for (int i = 7; i >= 0; i--) {
            boolean was = order[i] < 0 || order[i] >= o.children();
            for (int j = 0; j < i; j++) {
                was |= order[j] == order[i];
            }
            boolean before = i > 0 && order[i - 1] >= 0 && order[i - 1] < o.children();
            wrong = was || before && o.in((int) order[i]) < o.in((int) order[i - 1]) ? i : wrong;
        }
        Check.due("judge", x.judge(0, 8), wrong);
        int kind = random.nextInt(7);
        long[] seconds = new long[o.children()];
        for (int c = 0; c < seconds.length; c++) {
            seconds[c] = o.inAs(c, kind);
        }
        Check.row(x, 1, 1, seconds);
        int bits = 0;
        for (int k = 0; k < 7; k++) {
            boolean so = true;
            for (int c = 0; c < seconds.length; c++) {
                so &= o.inAs(c, k) == seconds[c];
            }
            bits |= so ? 1 << k : 0;
        }
        Check.due("meant", x.meant(1), bits);
        for (int c = 0; c < o.children() && o.lengths.length > 0; c++) {
            int in = o.inSack(c, random.nextInt(o.lengths.length));
            int worn = 0;
            for (int s = 0; s < o.lengths.length; s++) {
                worn |= o.inSack(c, s) == in ? 1 << s : 0;
            }
            Check.due("worn", x.worn(c, in), worn);
        }
    }

    /** Who is IN next of those who are not in the first of the row yet, or the first child. */
    private static int bestBut(Oracle o, long[] order, int n) {
        int next = -1;
        for (int c = 0; c < o.children(); c++) {
            boolean was = false;
            for (int i = 0; i < n; i++) {
                was |= order[i] == c;
            }
            if (!was && (next < 0 || o.in(c) < o.in(next))) {
                next = c;
            }
        }
        return Math.max(0, next);
    }

    private static void truth(InASackToTheRope x, Oracle o, Random random) {
        int[] won = new int[o.children()];
        for (int i = 0; i < 3; i++) {
            int first = o.race();
            Check.due("race", x.race(), first);
            Check.due("SEED", x.status(8), o.seed);
            if (first >= 0) {
                won[first]++;
            }
        }
        int n = 1 + random.nextInt(5);
        int child = random.nextInt(o.children());
        int summer = 0;
        for (int i = 0; i < n; i++) {
            int first = o.race();
            summer += first == child ? 1 : 0;
            if (first >= 0) {
                won[first]++;
            }
        }
        Check.due("summer", x.summer(n, child), summer);
        Check.due("SEED", x.status(8), o.seed);
        Check.due("RACES", x.status(7), 3 + n);
        for (int c = 0; c < won.length; c++) {
            Check.due("WON", x.childOf(c, 8), won[c]);
        }
    }
}
