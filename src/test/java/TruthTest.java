import java.util.function.Supplier;

/** Promises 34 to 36: races in truth, by draws. */
final class TruthTest {
    private TruthTest() {
    }

    static void all() {
        Check.test("34 race, one draw", TruthTest::oneDraw);
        Check.test("34 race, falling", TruthTest::falling);
        Check.test("34 race, several", TruthTest::several);
        Check.test("34 race, the ROPE", TruthTest::theRope);
        Check.test("34 race, nobody", TruthTest::nobody);
        Check.test("34 race, refused", TruthTest::raceRefused);
        Check.test("35 summer", TruthTest::summer);
        Check.test("35 summer, refused", TruthTest::summerRefused);
        Check.test("36 seed", TruthTest::seed);
    }

    private static int next(int seed) {
        return seed * 1103515245 + 12345;
    }

    private static int draw(int seed) {
        return (seed >>> 16) % 100;
    }

    private static int afterDraws(int seed, int draws) {
        int after = seed;
        for (int i = 0; i < draws; i++) {
            after = next(after);
        }
        return after;
    }

    private static void oneDraw() {
        Check.due("the first DRAW of SEED 1", draw(next(1)), 38);
        // RISK 10 + 24 + 4: the DRAW isn't below it
        InASackToTheRope x = Check.told("sack 6 8;child 0 0 4;way 4");
        Check.due("RISK", x.childOf(0, 7), 38);
        Check.due("race()", x.race(), 0);
        Check.due("one DRAW", x.status(8), 1103527590);
        Check.due("WON", x.childOf(0, 8), 1);
        Check.due("RACES", x.status(7), 1);
        // RISK 10 + 24 + 5: it is
        InASackToTheRope falls = Check.told("sack 7 8;child 0 0 5;way 5");
        Check.due("RISK", falls.childOf(0, 7), 39);
        int seed = seedOf(38, 38, 39, 99);
        falls.seed(seed);
        Check.due("race()", falls.race(), 0);
        Check.due("no DRAW for who is DOWN", falls.status(8), afterDraws(seed, 2));
        // RISK 5 + 3 + 5, and 20 more for want of BREATH
        InASackToTheRope breath = Check.told("sack 6 1;child 0 0 5;wind 1;way 5");
        Check.due("RISK", breath.childOf(0, 7), 13);
        int enough = seedOf(33, 33, 0, 99);
        breath.seed(enough);
        breath.race();
        Check.due("no fall by 33", breath.status(8), afterDraws(enough, 1));
        int less = seedOf(32, 32, 13, 99);
        breath.seed(less);
        breath.race();
        Check.due("a fall by 32", breath.status(8), afterDraws(less, 2));
        // three hops of RISK 38, by which one falls in a told race
        InASackToTheRope many = Check.told("sack 6 8;child 0 0 4;way 12;wind 60");
        Check.due("a fall as it is told", many.behind(0, 999, 4), 1);
        int high = 1;
        while (!allAbove(high, 4, 38)) {
            high++;
        }
        many.seed(high);
        many.race();
        Check.due("no WOBBLE in truth", many.status(8), afterDraws(high, 3));
    }

    /** A SEED whose next two DRAWS are from the one number to the other each. */
    private static int seedOf(int least, int most, int leastThen, int mostThen) {
        for (int seed = 1; seed < 1000000; seed++) {
            int first = draw(afterDraws(seed, 1));
            int second = draw(afterDraws(seed, 2));
            if (first >= least && first <= most && second >= leastThen && second <= mostThen) {
                return seed;
            }
        }
        throw new IllegalStateException("no such seed");
    }

    private static void falling() {
        // he falls at first, is DOWN two seconds, and hops to the WAY, or rolls there
        InASackToTheRope x = Check.told("sack 7 8;child 0 0 5;child 0 0 5;wears 1 0;up 2;way 2");
        int seed = 1;
        while (draw(afterDraws(seed, 1)) >= 39 || draw(afterDraws(seed, 2)) >= 39
                || draw(afterDraws(seed, 3)) < 39 || draw(afterDraws(seed, 4)) < 39) {
            seed++;
        }
        x.seed(seed);
        Check.due("both at once: the first", x.race(), 0);
        Check.due("four DRAWS", x.status(8), afterDraws(seed, 4));
        x.roll(true);
        x.seed(seed);
        x.race();
        Check.due("both roll there", x.status(8), afterDraws(seed, 2));
        x.ask(0, 3);
        x.seed(seed);
        x.race();
        Check.due("a foot too far to roll", x.status(8), afterDraws(seed, 4));
    }

    private static void several() {
        // the second is there at once and draws no more, the first goes on
        InASackToTheRope x = Check.told("child 0 0 1;child 0 0 9;way 9;rope 0");
        int seed = 1;
        while (!allAbove(seed, 10, 30)) {
            seed++;
        }
        x.seed(seed);
        Check.due("race()", x.race(), 1);
        Check.due("one and nine DRAWS", x.status(8), afterDraws(seed, 10));
        Check.due("WON of the first", x.childOf(0, 8), 0);
        Check.due("WON of the second", x.childOf(1, 8), 1);
        x.ahead(0, 9);
        x.seed(seed);
        Check.due("at the WAY already", x.race(), 0);
        Check.due("a DRAW of the second", x.status(8), afterDraws(seed, 1));
        Check.due("RACES", x.status(7), 2);
        // the order is child by child, second by second: only the second DRAW makes one fall
        InASackToTheRope order = Check.told("sack 9 9;child 0 0 1;child 0 0 1;wears 1 0;way 1;rope 0;wind 60");
        order.seed(seedOf(68, 99, 0, 67));
        Check.due("the second falls", order.race(), 0);
        order.seed(seedOf(0, 67, 68, 99));
        Check.due("the first falls", order.race(), 1);
    }

    private static boolean allAbove(int seed, int draws, int least) {
        for (int i = 1; i <= draws; i++) {
            if (draw(afterDraws(seed, i)) < least) {
                return false;
            }
        }
        return true;
    }

    private static void theRope() {
        // one foot ahead, but LEGS 1: 8 more for the ROPE, where LEGS 9 have none
        InASackToTheRope x = Check.told("child 0 0 1;child 0 0 9;ahead 0 1;ahead 1 1;way 1;rope 9");
        Check.due("the ROPE counts", x.race(), 1);
        Check.due("no DRAW", x.status(8), 1);
        x.ask(2, 1);
        Check.due("no ROPE beyond LEGS", x.race(), 0);
    }

    private static void nobody() {
        InASackToTheRope x = Check.told("sack 1 9;child 5 9 9;wind 0;up 1;way 1");
        Check.free(x, "race()", x::race, -1);
        Check.due("RACES", x.status(7), 1);
        Check.due("WON", x.childOf(0, 8), 0);
        // he hops and lies by turns: a DRAW in each second that he hops
        Check.due("999 SECONDS", x.status(8), afterDraws(1, 500));
    }

    private static void raceRefused() {
        Check.refused(InASackToTheRope::new, "race()", y -> y.race(), -15);
    }

    private static void summer() {
        String text = "sack 6 3;child 0 0 5;child 2 0 4;child 4 0 5;wears 1 0;wears 2 0";
        InASackToTheRope by = Check.told(text);
        int[] won = new int[3];
        for (int i = 0; i < 30; i++) {
            int first = by.race();
            if (first >= 0) {
                won[first]++;
            }
        }
        for (int c = 0; c < 3; c++) {
            InASackToTheRope x = Check.told(text);
            Check.due("summer(30, " + c + ")", x.summer(30, c), won[c]);
            Check.due("RACES", x.status(7), 30);
            Check.due("SEED", x.status(8), by.status(8));
            for (int other = 0; other < 3; other++) {
                Check.due("WON", x.childOf(other, 8), won[other]);
            }
        }
        InASackToTheRope one = Check.told("child 0 0 5");
        Check.due("summer(1, 0)", one.summer(1, 0), 1);
        Check.due("summer(2, 0): in it alone", one.summer(2, 0), 2);
        Check.due("WON in all", one.childOf(0, 8), 3);
        Check.due("RACES", one.status(7), 3);
    }

    private static void summerRefused() {
        Supplier<InASackToTheRope> make = () -> Check.told("child 0 0 5");
        Check.refused(make, "summer(0, 1)", y -> y.summer(0, 1), -1);
        Check.refused(make, "summer(1, -1)", y -> y.summer(1, -1), -1);
        Check.refused(make, "summer(0, 0)", y -> y.summer(0, 0), -6);
        Check.refused(make, "summer(31, 0)", y -> y.summer(31, 0), -6);
        Check.refused(make, "summer(-1, 0)", y -> y.summer(-1, 0), -6);
    }

    private static void seed() {
        InASackToTheRope x = new InASackToTheRope();
        Check.due("the first", x.seed(Integer.MIN_VALUE), 1);
        Check.due("status(8)", x.status(8), Integer.MIN_VALUE);
        Check.free(x, "seed(-1)", () -> x.seed(-1), Integer.MIN_VALUE);
        Check.free(x, "seed(0)", () -> x.seed(0), -1);
        // upper bits without a sign: a DRAW by a SEED below 0 is none below 0
        InASackToTheRope low = Check.told("sack 9 9;child 0 0 1;way 1;wind 60");
        int seed = 1;
        while (next(seed) >= 0 || draw(next(seed)) < 68) {
            seed++;
        }
        low.seed(seed);
        low.race();
        Check.due("no fall", low.status(8), next(seed));
    }
}
