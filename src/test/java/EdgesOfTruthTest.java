/** Terms 3, in truth: draws, races, summers; and the moves: what wraps around, and what is never reached. */
final class EdgesOfTruthTest {
    private static final int TIMES = 1103515245;
    /** Falls at each hop, for want of BREATH: RISK 105. */
    private static final String NEVER = "sack 1 9;child 5 9 9;wind 0;up 1;rope 0";

    private EdgesOfTruthTest() {
    }

    static void all() {
        Check.test("terms 3: SEED is 1 at first", EdgesOfTruthTest::seedAtFirst);
        Check.test("terms 3: SEED is an int, wrapping", EdgesOfTruthTest::seedWraps);
        Check.test("terms 3: a DRAW is of the upper 16 bits, no sign, modulo 100", EdgesOfTruthTest::upperBits);
        Check.test("terms 3: he falls if a DRAW is below RISK", EdgesOfTruthTest::belowRisk);
        Check.test("terms 3: RISK in truth is 20 more for want of BREATH", EdgesOfTruthTest::twentyMore);
        Check.test("terms 3: WOBBLE aside", EdgesOfTruthTest::wobbleAside);
        Check.test("terms 3: no DRAW for who is DOWN", EdgesOfTruthTest::noDrawDown);
        Check.test("terms 3: child by child who isn't IN", EdgesOfTruthTest::whoIsNotIn);
        Check.test("terms 3: who is IN first, of several the first", EdgesOfTruthTest::ofSeveral);
        Check.test("terms 3: ROPE counts there, too", EdgesOfTruthTest::rope);
        Check.test("terms 3: a RACE of one to eight children", EdgesOfTruthTest::fields);
        Check.test("terms 3: WON of him is 1 more", EdgesOfTruthTest::won);
        Check.test("terms 3: nobody within 999 SECONDS: NONE", EdgesOfTruthTest::nobody);
        Check.test("terms 3: 998 SECONDS are enough, 999 are never", EdgesOfTruthTest::lastSeconds);
        Check.test("details: a RACE goes on until all are IN", EdgesOfTruthTest::untilAll);
        Check.test("details: or 999 SECONDS are over", EdgesOfTruthTest::untilOver);
        Check.test("terms 3: rolling in truth", EdgesOfTruthTest::rolling);
        Check.test("terms 3: a SUMMER of 1 to 30 RACES", EdgesOfTruthTest::summer);
        Check.test("terms 3: how often a child won in it", EdgesOfTruthTest::summerWon);
        Check.test("terms 3: MOVES wrap", EdgesOfTruthTest::movesWrap);
        Check.test("terms 3: of THE TRACE the first 20 are kept", EdgesOfTruthTest::traceEnds);
        Check.test("terms 3: m is the number, k its a, from the least to the most", EdgesOfTruthTest::moveNumbers);
    }

    private static int next(int seed) {
        return (int) (seed * (long) TIMES + 12345L);
    }

    private static int after(int seed, int draws) {
        int after = seed;
        for (int i = 0; i < draws; i++) {
            after = next(after);
        }
        return after;
    }

    private static int drawOf(int seed) {
        return (int) ((seed & 0xffffffffL) / 65536 % 100);
    }

    /** The SEED from which the next one has these upper 16 bits. */
    private static int before(int upper) {
        int inverse = TIMES;
        for (int i = 0; i < 5; i++) {
            inverse *= 2 - TIMES * inverse;
        }
        return ((upper << 16 | 4711) - 12345) * inverse;
    }

    /** GREEDY, with breath for some hops, of RISK 1 to 85, a foot from the WAY. */
    private static InASackToTheRope risk(int risk) {
        int length = risk <= 37 ? 1 : risk <= 57 ? 5 : 1;
        int legs = risk <= 57 ? 1 : 9;
        int rest = risk - legs - 5 * Math.abs(length - legs);
        int holes = Math.min(9, rest / 3);
        InASackToTheRope x = Check.told("sack " + length + " " + holes + ";child 5 " + (rest - 3 * holes) + " " + legs
                + ";way 1;rope 0;wind 60");
        Check.due("RISK", x.childOf(0, 7), risk);
        return x;
    }

    /** By the first DRAW one falls, or is IN, and then there is no other. */
    private static void falls(InASackToTheRope x, int seed, boolean want) {
        x.seed(seed);
        x.race();
        Check.holds("a DRAW of " + drawOf(next(seed)) + (want ? " is a fall" : " is none"),
                want == (x.status(8) != next(seed)));
    }

    private static void seedAtFirst() {
        Check.due("SEED", new InASackToTheRope().status(8), 1);
        Check.due("SEED", new InASackToTheRope().seed(7), 1);
        InASackToTheRope x = Check.told("child 6 0 1;way 1");
        x.race();
        Check.due("1103515245 and 12345", x.status(8), 1103527590);
    }

    private static void seedWraps() {
        // RISK of TIPTOE with LEGS 1 is 0: each DRAW is enough, so there is one
        int[] seeds = {0, 1, -1, 2, Edges.MAX, Edges.MIN, 1103515245, -1103515245, 123456789};
        for (int seed : seeds) {
            InASackToTheRope x = Check.told("child 6 0 1;way 1");
            x.seed(seed);
            x.race();
            Check.due("SEED behind " + seed, x.status(8), next(seed));
        }
        InASackToTheRope x = Check.told("child 6 0 1;way 1");
        x.summer(30, 0);
        Check.due("SEED behind 30", x.status(8), after(1, 30));
    }

    private static void upperBits() {
        // 0xffff is 65535, 0x8000 is 32768; with a sign they would be below 0
        int[] uppers = {0, 1, 49, 50, 84, 100, 149, 0x7fff, 0x8000, 0xffff, 0x8001, 0xfffe};
        for (int upper : uppers) {
            int draw = upper % 100;
            Check.due("the next SEED has them", next(before(upper)) >>> 16, upper);
            if (draw > 0) {
                falls(risk(draw), before(upper), false);
            }
            falls(risk(draw + 1), before(upper), true);
        }
    }

    private static void belowRisk() {
        for (int risk : new int[] {1, 2, 37, 38, 57, 58, 84, 85}) {
            falls(risk(risk), before(risk - 1), true);
            falls(risk(risk), before(risk), false);
        }
        // RISK 0 never is one, RISK 100 always
        InASackToTheRope never = Check.told("child 6 0 1;way 1;rope 0");
        Check.due("RISK", never.childOf(0, 7), 0);
        falls(never, before(0), false);
        falls(greedyOutOfBreath(3), before(99), false);
        falls(greedyOutOfBreath(4), before(99), true);
    }

    /** RISK 76 and a, and 20 more. */
    private static InASackToTheRope greedyOutOfBreath(int a) {
        return Check.told("sack 1 9;child 5 " + a + " 9;wind 0;way 1;rope 0");
    }

    private static void twentyMore() {
        // HOPPER, LEGS 1: RISK 1, and 20 more below BREATH 2
        InASackToTheRope x = Check.told("child 0 0 1;way 1;rope 0;wind 2");
        falls(x, before(1), false);
        x.ask(3, 1);
        falls(x, before(20), true);
        falls(x, before(21), false);
    }

    private static void wobbleAside() {
        // RISK 50 in a SACK: told, he falls at the second hop
        InASackToTheRope x = Check.told("sack 2 4;child 0 0 8;way 16;rope 0");
        Check.due("told", x.behind(0, 2, 4), 1);
        int seed = 1;
        while (drawOf(after(seed, 1)) < 50 || drawOf(after(seed, 2)) < 50) {
            seed++;
        }
        x.seed(seed);
        x.race();
        Check.due("two hops, two DRAWS", x.status(8), after(seed, 2));
    }

    private static void noDrawDown() {
        for (int up : new int[] {1, 20}) {
            InASackToTheRope x = Check.told("sack 9 9;child 0 0 1;way 1;rope 0;up " + up);
            int seed = 1;
            while (drawOf(after(seed, 1)) >= 68 || drawOf(after(seed, 2)) < 68) {
                seed++;
            }
            x.seed(seed);
            Check.due("he falls and rises", x.race(), 0);
            Check.due("a DRAW for each hop, by UP " + up, x.status(8), after(seed, 2));
        }
    }

    private static void whoIsNotIn() {
        // one AT the WAY, one beyond it, one a foot before
        InASackToTheRope x = Check.told("child 6 0 1;child 6 0 1;child 6 0 1;way 9;rope 0;"
                + "ahead 0 9;ahead 1 10;ahead 2 8");
        x.race();
        Check.due("one DRAW", x.status(8), after(1, 1));
        x.ahead(0, 8);
        x.seed(1);
        x.race();
        Check.due("two DRAWS", x.status(8), after(1, 2));
        x.ahead(2, 9);
        x.ahead(0, 9);
        x.seed(1);
        x.race();
        Check.due("no DRAW", x.status(8), 1);
        // who waits for the ROPE hops no more
        InASackToTheRope rope = Check.told("child 6 0 1;way 1;rope 9");
        rope.race();
        Check.due("one hop", rope.status(8), after(1, 1));
        // the children's order is the order of the DRAWS, SECOND by SECOND: RISK 68 each
        InASackToTheRope order = Check.told("sack 9 9;child 0 0 1;child 0 0 1;way 1;rope 0");
        order.seed(seedOf(false, true));
        Check.due("the first is IN", order.race(), 0);
        order.seed(seedOf(true, false));
        Check.due("the second is IN", order.race(), 1);
    }

    private static int seedOf(boolean firstFalls, boolean secondFalls) {
        int seed = 1;
        while (drawOf(after(seed, 1)) < 68 != firstFalls || drawOf(after(seed, 2)) < 68 != secondFalls) {
            seed++;
        }
        return seed;
    }

    private static void ofSeveral() {
        InASackToTheRope x = Check.told("child 6 0 1;child 6 0 1;child 6 0 1;way 2;rope 0");
        Check.due("all at once", x.race(), 0);
        x.ahead(1, 1);
        x.ahead(2, 1);
        Check.due("the two a SECOND sooner", x.race(), 1);
        x.ahead(2, 2);
        Check.due("the last", x.race(), 2);
    }

    private static void rope() {
        // TIPTOE, LEGS 1: IN in 1 SECOND, or 0 and 1 for the ROPE
        InASackToTheRope x = Check.told("child 6 0 1;child 3 0 2;ahead 0 9;ahead 1 8;way 9;rope 1");
        Check.due("no ROPE beyond LEGS", x.race(), 0);
        int seed = 1;
        while (drawOf(after(seed, 1)) < 1) {
            seed++;
        }
        x.ask(2, 2);
        x.seed(seed);
        Check.due("both in 1: the first", x.race(), 0);
        x.ask(2, 3);
        x.seed(seed);
        Check.due("both in 2: the first", x.race(), 0);
        InASackToTheRope other = Check.told("child 3 0 2;child 6 0 1;ahead 0 8;ahead 1 9;way 9;rope 2");
        other.seed(seed);
        Check.due("both in 1, the other way about: the first", other.race(), 0);
        other.ask(2, 1);
        other.seed(seed);
        Check.due("0 and 1", other.race(), 1);
    }

    private static void fields() {
        for (int children = 1; children <= 8; children++) {
            InASackToTheRope x = new InASackToTheRope();
            x.ask(0, 1);
            for (int c = 0; c < children; c++) {
                x.child(6, 0, 1);
            }
            Check.due("the first of " + children, x.race(), 0);
            Check.due("a DRAW for each", x.status(8), after(1, children));
            x.ahead(children - 1, 1);
            Check.due("the last of " + children, x.race(), children - 1);
            Check.due("a DRAW for each other", x.status(8), after(1, 2 * children - 1));
        }
        // who was there before the image came back hops no more
        InASackToTheRope x = Check.told("child 6 0 1;way 9;rope 0");
        x.image();
        x.child(6, 0, 1);
        x.race();
        x.restore();
        Check.due("alone again", x.race(), 0);
        Check.due("nine DRAWS", x.status(8), after(1, 9));
    }

    private static void won() {
        InASackToTheRope x = Check.told("child 6 0 1;child 6 0 2;child 6 0 1;way 2;rope 0");
        int seed = 1;
        while (drawOf(after(seed, 2)) < 1) {
            seed++;
        }
        x.seed(seed);
        Check.due("LEGS 2", x.race(), 1);
        int[] want = {0, 1, 0};
        for (int c = 0; c < 3; c++) {
            Check.due("WON of " + c, x.childOf(c, 8), want[c]);
        }
        x.ahead(2, 2);
        x.race();
        x.race();
        Check.due("WON of the last", x.childOf(2, 8), 2);
        Check.due("WON of the second", x.childOf(1, 8), 1);
    }

    private static void nobody() {
        InASackToTheRope x = Check.told(NEVER + ";child 5 9 9;way 1");
        Check.free(x, "race()", x::race, -1);
        Check.due("WON", x.childOf(0, 8) + x.childOf(1, 8), 0);
        Check.due("it was a RACE", x.status(7), 1);
        Check.due("summer(2, 1)", x.summer(2, 1), 0);
        Check.due("and two more", x.status(7), 3);
        x.ahead(1, 1);
        Check.due("one is IN", x.race(), 1);
    }

    /** A SEED by which LEGS 1, of RISK 68, goes so far by UP 1 in just so many SECONDS. */
    private static int seedFor(int way, int seconds) {
        for (int seed = 1; seed < 1000000; seed++) {
            int now = seed;
            int at = 0;
            int gone = 0;
            while (at < way && gone < seconds) {
                now = next(now);
                boolean falls = drawOf(now) < 68;
                at += falls ? 0 : 1;
                gone += falls ? 2 : 1;
            }
            if (at == way && gone == seconds) {
                return seed;
            }
        }
        throw new IllegalStateException("no such seed");
    }

    private static void lastSeconds() {
        // a hop is a SECOND, a fall is two: by 199 feet they are odd, by 200 even
        int[][] secondsRopeWho = {{997, 0, 0}, {998, 0, 0}, {999, 0, -1}, {1000, 0, -1},
            {997, 2, 0}, {998, 2, -1}, {990, 8, 0}, {990, 9, 0}, {991, 8, 0}, {991, 9, -1}};
        for (int[] s : secondsRopeWho) {
            int way = 200 - s[0] % 2;
            InASackToTheRope x = Check.told("sack 9 9;child 0 0 1;up 1;wind 60;way " + way + ";rope " + s[1]);
            int seed = seedFor(way, s[0]);
            x.seed(seed);
            Check.due("in " + s[0] + " SECONDS with ROPE " + s[1], x.race(), s[2]);
            Check.due("WON", x.childOf(0, 8), s[2] + 1);
            // a DRAW for each foot and each fall, but none in the thousandth SECOND
            Check.due("SEED", x.status(8), after(seed, (way + s[0]) / 2 - s[0] / 1000));
        }
    }

    private static void untilAll() {
        // the first is IN at once, the second hops nine times
        InASackToTheRope x = Check.told("child 6 0 1;child 6 0 1;ahead 0 9;way 9;rope 0");
        Check.due("race()", x.race(), 0);
        Check.due("nine DRAWS", x.status(8), after(1, 9));
        x.ahead(1, 9);
        x.seed(1);
        x.race();
        Check.due("none", x.status(8), 1);
    }

    private static void untilOver() {
        // one is IN by the first hop, the other hops on each other SECOND: 1, 3, .. 999
        InASackToTheRope alone = Check.told(NEVER + ";way 1");
        alone.race();
        Check.due("500 DRAWS", alone.status(8), after(1, 500));
        InASackToTheRope x = Check.told(NEVER + ";way 1;sack 1 0;child 3 0 1");
        int seed = 1;
        while (drawOf(after(seed, 2)) < 1) {
            seed++;
        }
        x.seed(seed);
        Check.due("race()", x.race(), 1);
        Check.due("501 DRAWS", x.status(8), after(seed, 501));
    }

    private static void rolling() {
        // he falls at once, and rolls there: no DRAW but the first
        InASackToTheRope x = Check.told("sack 1 9;child 5 9 9;wind 0;up 20;rope 0;way 20");
        x.roll(true);
        Check.due("race()", x.race(), 0);
        Check.due("one DRAW", x.status(8), after(1, 1));
        Check.due("told", x.comesIn(0), 21);
        // a foot more is a hop more, with BREATH, of RISK 85
        x.ask(0, 21);
        int seed = before(85);
        x.seed(seed);
        x.race();
        Check.holds("a second DRAW", x.status(8) != after(seed, 1));
    }

    private static void summer() {
        for (int n : new int[] {1, 30}) {
            InASackToTheRope x = Check.told("child 6 0 1;way 1");
            Edges.taken(x, "summer " + n, y -> y.summer(n, 0));
            Check.due("RACES", x.status(7), n);
            Check.due("WON", x.childOf(0, 8), n);
            Check.due("DRAWS", x.status(8), after(1, n));
        }
        Edges.left(Edges::lived, "n", 1, 30, (x, v) -> x.summer(v, 0), -6);
    }

    private static void summerWon() {
        InASackToTheRope x = Check.told("child 6 0 1;child 6 0 1;way 1");
        Check.due("all", x.summer(30, 0), 30);
        Check.due("none", x.summer(30, 1), 0);
        Check.due("in it", x.summer(1, 0), 1);
        Check.due("in all", x.childOf(0, 8), 61);
    }

    private static void movesWrap() {
        InASackToTheRope x = Check.told("child 0 0 1;child 1 9 1;child 2 0 1;child 3 9 1;child 4 9 1;"
                + "child 5 9 1;child 6 9 1;child 0 9 1");
        long max = Edges.MAX;
        long min = Edges.MIN;
        due(x, 7, 0, Edges.MAX, max + 7);
        due(x, 1, 0, Edges.MAX, max + 1 + 9);
        due(x, 4, 0, Edges.MIN, min);
        due(x, 6, 0, Edges.MIN, 2 * min);
        due(x, 6, 0, 1 << 30, 1L << 31);
        due(x, 7, 1, 1 << 30, 2 * ((1L << 30) + 7));
        due(x, 2, 1, Edges.MAX, 6 * (max + 2));
        due(x, 2, 1, 1 << 30, 6 * ((1L << 30) + 2));
        due(x, 3, 1, Edges.MAX, 2 * (max + 1 + 3 + 9));
        due(x, 6, 1, Edges.MIN, 4 * (min - 9));
        due(x, 7, 2, Edges.MIN, (int) (2 * (min + 7)) ^ (int) (min - 9 + 7));
        due(x, 4, 2, Edges.MIN, -(long) ((int) (2 * min) ^ (int) (min - 9)));
        due(x, 5, 2, Edges.MAX, (int) (6 * (max + 5)) ^ (int) (max - 9 + 5) ^ 5);
    }

    private static void due(InASackToTheRope x, int child, int move, int v, long want) {
        Check.due("act(" + child + ", " + move + ", " + v + ")", x.act(child, move, v), (int) want);
    }

    private static void traceEnds() {
        InASackToTheRope x = Check.told("child 6 9 1");
        x.act(0, 2, 1);
        int[] want = {50, 12, 71, 11, 70, 51, 10, 70, 51, 10};
        for (int i = 0; i < want.length; i++) {
            Check.due("trace(" + i + ")", x.trace(i), want[i]);
        }
        Check.due("bodies", x.status(9), want.length);
        for (int i : new int[] {-1, 10, 19, 20, 21, Edges.MIN, Edges.MAX}) {
            Check.free(x, "trace(" + i + ")", () -> x.trace(i), -1);
        }
    }

    private static void moveNumbers() {
        InASackToTheRope x = Edges.full();
        Check.due("m 0", x.act(0, 0, 0), 0);
        Check.due("m 7, HOPPER", x.act(7, 0, 0), 7);
        InASackToTheRope k = Check.told("child 1 0 1;child 1 9 1");
        Check.due("k 0", k.act(0, 0, 0), 0);
        Check.due("k 9 and m 1", k.act(1, 0, 0), 10);
    }
}
