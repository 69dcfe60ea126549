/** Terms 2, a race: each sentence's boundary cases, worked out by hand from the document's words. */
final class EdgesOfRaceTest {
    /** LEGS 5 in a SACK of LENGTH 9 with 9 HOLES: RISK 20 + 27 + 5 = 52, so he falls at the second hop. */
    private static final String FALLER = "sack 9 9;child 0 0 5";
    /** LEGS 9 and a 9 in a SACK of LENGTH 1 with 9 HOLES: RISK 40 + 27 + 18 = 85, and 20 more for want of BREATH. */
    private static final String NEVER = "sack 1 9;child 5 9 9;wind 0;up 1";
    private static final int[] PUFFS = {2, 1, 4, 0, 3, 5, 2};

    private EdgesOfRaceTest() {
    }

    static void all() {
        Check.test("terms 2: SLACK is LENGTH less LEGS, whatever the sign", EdgesOfRaceTest::slack);
        Check.test("terms 2: without SACKS there are SLACK 0 and no HOLES", EdgesOfRaceTest::withoutSacks);
        Check.test("terms 2: STRIDE of EVEN is 1 less than LEGS, 1 at least",
                () -> strides(1, 0, 1, 1, 2, 1, 3, 2, 9, 8));
        Check.test("terms 2: STRIDE of CALM is half of LEGS, rounded up",
                () -> strides(3, 0, 1, 1, 2, 1, 3, 2, 4, 2, 8, 4, 9, 5));
        Check.test("terms 2: STRIDE of HOPPER is LEGS, of LONG LEGS and 2", EdgesOfRaceTest::plainStrides);
        Check.test("terms 2: STRIDE of GREEDY is LEGS and a, from 0 to 9", EdgesOfRaceTest::greedyStrides);
        Check.test("terms 2: STRIDE of RUNNING is LEGS and 1 less SLACK, 1 at least", EdgesOfRaceTest::runningStrides);
        Check.test("terms 2: STRIDE of TIPTOE is LEGS less SLACK, 1 at least", EdgesOfRaceTest::tiptoeStrides);
        Check.test("terms 2: RISK of RUNNING and TIPTOE is half of that, cut", EdgesOfRaceTest::halfRisk);
        Check.test("terms 2: 20 more of RISK, if BREATH is less than PUFF", EdgesOfRaceTest::outOfBreath);
        Check.test("terms 2: the 20 more are not halved", EdgesOfRaceTest::twentyWhole);
        Check.test("terms 2: at first one is AT his AHEAD, BREATH is WIND, WOBBLE 0, not DOWN",
                EdgesOfRaceTest::atFirst);
        Check.test("terms 2: a SECOND goes as long as AT is below WAY", EdgesOfRaceTest::belowWay);
        Check.test("terms 2: DOWN is UP, and 1 less each SECOND", EdgesOfRaceTest::down);
        Check.test("terms 2: RISK counts as it is then, ahead of the hop", EdgesOfRaceTest::riskThen);
        Check.test("terms 2: BREATH is PUFF less, 0 at least, and 1 more", EdgesOfRaceTest::breathLess);
        Check.test("terms 2: one falls if WOBBLE is 100 at least", EdgesOfRaceTest::hundred);
        Check.test("terms 2: WOBBLE is 100 less once, even from 200 on", EdgesOfRaceTest::twoHundred);
        Check.test("terms 2: one stays where he is as he falls", EdgesOfRaceTest::stays);
        Check.test("terms 2: BREATH is 60 at most", EdgesOfRaceTest::sixty);
        Check.test("terms 2: IN is how many SECONDS till AT is WAY at least", EdgesOfRaceTest::tillWay);
        Check.test("terms 2: ROPE less LEGS more, if that is above 0", EdgesOfRaceTest::rope);
        Check.test("terms 2: IN is 999 at most", EdgesOfRaceTest::atMost);
        Check.test("terms 2: 999: he never is", EdgesOfRaceTest::never);
        Check.test("terms 2: ROLLING goes a foot on each SECOND that one is DOWN", EdgesOfRaceTest::rolling);
    }

    private static void state(InASackToTheRope x, int n, int... want) {
        for (int what = 0; what < want.length; what++) {
            Check.due("behind(0, " + n + ", " + what + ")", x.behind(0, n, what), want[what]);
        }
    }

    private static InASackToTheRope rolls(String text) {
        InASackToTheRope x = Check.told(text);
        x.roll(true);
        return x;
    }

    private static void slack() {
        for (int length = 1; length <= 9; length++) {
            for (int legs = 1; legs <= 9; legs++) {
                int slack = length > legs ? length - legs : legs - length;
                InASackToTheRope x = Check.told("sack " + length + " 0;child 0 0 " + legs);
                Check.due("RISK of LEGS " + legs + " in " + length, x.childOf(0, 7), 5 * slack + legs);
            }
        }
    }

    private static void withoutSacks() {
        int[] strides = {5, 4, 7, 3, 6, 8, 5};
        int[] risks = {5, 4, 7, 3, 3, 8, 2};
        for (int kind = 0; kind < 7; kind++) {
            InASackToTheRope x = Check.told("child " + kind + " 3 5");
            Check.due("STRIDE of " + kind, x.childOf(0, 5), strides[kind]);
            Check.due("RISK of " + kind, x.childOf(0, 7), risks[kind]);
        }
        InASackToTheRope x = Check.told("child 0 0 5");
        x.sack(9, 9);
        Check.due("with the first SACK", x.childOf(0, 7), 52);
    }

    /** LEGS and STRIDE by turns, without SACKS. */
    private static void strides(int kind, int a, int... want) {
        for (int i = 0; i < want.length; i += 2) {
            InASackToTheRope x = Check.told("child " + kind + " " + a + " " + want[i]);
            Check.due("STRIDE of " + kind + " with LEGS " + want[i], x.childOf(0, 5), want[i + 1]);
        }
    }

    private static void plainStrides() {
        strides(0, 9, 1, 1, 9, 9);
        strides(2, 9, 1, 3, 9, 11);
    }

    private static void greedyStrides() {
        strides(5, 0, 1, 1, 9, 9);
        strides(5, 9, 1, 10, 9, 18);
    }

    private static void strideIn(int kind, int legs, int length, int want) {
        InASackToTheRope x = Check.told("sack " + length + " 0;child " + kind + " 0 " + legs);
        Check.due("STRIDE of " + kind + ", LEGS " + legs + " in " + length, x.childOf(0, 5), want);
    }

    private static void runningStrides() {
        strideIn(4, 4, 4, 5);
        strideIn(4, 4, 7, 2);
        strideIn(4, 4, 8, 1);
        strideIn(4, 4, 9, 1);
        strideIn(4, 1, 9, 1);
        strideIn(4, 9, 1, 2);
    }

    private static void tiptoeStrides() {
        strideIn(6, 4, 4, 4);
        strideIn(6, 4, 6, 2);
        strideIn(6, 4, 7, 1);
        strideIn(6, 4, 8, 1);
        strideIn(6, 1, 9, 1);
        strideIn(6, 9, 1, 1);
    }

    private static void halfRisk() {
        // STRIDE 1, so 1 / 2; then 6, 5, 10, 9 / 2
        Check.due("TIPTOE, LEGS 1", Check.told("child 6 0 1").childOf(0, 7), 0);
        Check.due("RUNNING, LEGS 5", Check.told("child 4 0 5").childOf(0, 7), 3);
        Check.due("TIPTOE, LEGS 5", Check.told("child 6 0 5").childOf(0, 7), 2);
        Check.due("RUNNING, LEGS 9", Check.told("child 4 0 9").childOf(0, 7), 5);
        Check.due("TIPTOE, LEGS 9", Check.told("child 6 0 9").childOf(0, 7), 4);
        // 5 and 3 and STRIDE 5, all together 13
        Check.due("RUNNING in a SACK", Check.told("sack 6 1;child 4 0 5").childOf(0, 7), 6);
        Check.due("HOPPER in it, whole", Check.told("sack 6 1;child 0 0 5").childOf(0, 7), 13);
    }

    private static void outOfBreath() {
        for (int kind = 0; kind < 7; kind++) {
            InASackToTheRope x = Check.told("child " + kind + " 3 5");
            int risk = x.childOf(0, 7);
            x.ask(3, PUFFS[kind]);
            Check.due("BREATH as PUFF, of " + kind, x.behind(0, 1, 2), risk);
            if (PUFFS[kind] > 0) {
                x.ask(3, PUFFS[kind] - 1);
                Check.due("one less, of " + kind, x.behind(0, 1, 2), risk + 20);
            }
        }
        Check.due("CALM is never out of BREATH", Check.told("child 3 0 5;wind 0").behind(0, 1, 2), 3);
    }

    private static void twentyWhole() {
        state(Check.told("child 4 0 5;wind 2"), 1, 6, 1, 23, 0, 0);
        state(Check.told("child 6 0 5;wind 1"), 1, 5, 1, 22, 0, 0);
    }

    private static void atFirst() {
        state(Check.told(FALLER), 0, 0, 20, 0, 0, 0);
        state(Check.told(FALLER + ";ahead 0 99;wind 0"), 0, 99, 0, 0, 0, 0);
        state(Check.told(FALLER + ";ahead 0 1;wind 60"), 0, 1, 60, 0, 0, 0);
    }

    private static void belowWay() {
        InASackToTheRope x = Check.told("child 0 0 5;way 40;ahead 0 39");
        state(x, 1, 44, 19, 5, 0, 0);
        state(x, 2, 44, 19, 5, 0, 0);
        state(x, 999, 44, 19, 5, 0, 0);
        x.ahead(0, 40);
        state(x, 1, 40, 20, 0, 0, 0);
        x.ahead(0, 41);
        state(x, 1, 41, 20, 0, 0, 0);
        x.ahead(0, 35);
        state(x, 2, 40, 19, 5, 0, 0);
        state(Check.told("child 0 0 1;way 1"), 2, 1, 19, 1, 0, 0);
    }

    private static void down() {
        InASackToTheRope one = Check.told(FALLER + ";up 1");
        state(one, 1, 5, 19, 52, 0, 0);
        state(one, 2, 5, 18, 4, 1, 1);
        state(one, 3, 5, 20, 4, 0, 1);
        state(one, 4, 10, 19, 56, 0, 1);
        InASackToTheRope twenty = Check.told(FALLER + ";up 20");
        state(twenty, 2, 5, 18, 4, 20, 1);
        state(twenty, 3, 5, 20, 4, 19, 1);
        state(twenty, 21, 5, 56, 4, 1, 1);
        state(twenty, 22, 5, 58, 4, 0, 1);
        state(twenty, 23, 10, 57, 56, 0, 1);
    }

    private static void riskThen() {
        InASackToTheRope x = Check.told("child 0 0 5;wind 2");
        state(x, 1, 5, 1, 5, 0, 0);
        state(x, 2, 10, 1, 30, 0, 0);
        InASackToTheRope three = Check.told("child 0 0 5;wind 3");
        state(three, 2, 10, 1, 10, 0, 0);
        state(three, 3, 15, 1, 35, 0, 0);
    }

    private static void breathLess() {
        for (int kind = 0; kind < 7; kind++) {
            for (int wind = 0; wind <= PUFFS[kind] + 1; wind++) {
                InASackToTheRope x = Check.told("child " + kind + " 0 5;wind " + wind);
                Check.due("BREATH of " + kind + " from " + wind, x.behind(0, 1, 1),
                        wind <= PUFFS[kind] ? 1 : 2);
            }
        }
        Check.due("as one falls, too", Check.told(NEVER).behind(0, 1, 1), 1);
    }

    private static void hundred() {
        // RISK 24 + 9: 99 at the third hop, 132 at the fourth
        InASackToTheRope below = Check.told("sack 9 8;child 0 0 9");
        state(below, 3, 27, 17, 99, 0, 0);
        state(below, 4, 27, 16, 32, 5, 1);
        // RISK 30 + 12 + 8: 100 at the second
        InASackToTheRope just = Check.told("sack 2 4;child 0 0 8");
        state(just, 1, 8, 19, 50, 0, 0);
        state(just, 2, 8, 18, 0, 5, 1);
        // RISK 40 + 15 + 5: above it at the second
        InASackToTheRope above = Check.told("sack 9 5;child 5 4 1");
        Check.due("RISK", above.childOf(0, 7), 60);
        state(above, 2, 5, 12, 20, 5, 1);
    }

    private static void twoHundred() {
        InASackToTheRope x = Check.told(NEVER);
        state(x, 1, 0, 1, 5, 1, 1);
        state(x, 37, 0, 1, 95, 1, 19);
        // 95 and 105
        state(x, 39, 0, 1, 100, 1, 20);
        // 100 and 105
        state(x, 41, 0, 1, 105, 1, 21);
    }

    private static void stays() {
        InASackToTheRope x = Check.told(FALLER + ";ahead 0 3");
        Check.due("before", x.behind(0, 1, 0), 8);
        Check.due("as he falls", x.behind(0, 2, 0), 8);
        Check.due("as he lies", x.behind(0, 7, 0), 8);
        Check.due("as he hops again", x.behind(0, 8, 0), 13);
    }

    private static void sixty() {
        InASackToTheRope calm = Check.told("child 3 0 1;wind 58");
        int[] hopping = {58, 59, 60, 60, 60};
        for (int n = 0; n < hopping.length; n++) {
            Check.due("CALM behind " + n, calm.behind(0, n, 1), hopping[n]);
        }
        Check.due("from 60", Check.told("child 3 0 1;wind 60").behind(0, 1, 1), 60);
        // 60, 59, falls 58, lies 60, 60
        InASackToTheRope faller = Check.told(FALLER + ";wind 60");
        int[] lying = {60, 59, 58, 60, 60};
        for (int n = 0; n < lying.length; n++) {
            Check.due("lying behind " + n, faller.behind(0, n, 1), lying[n]);
        }
        // 59 and 2 would be 61
        InASackToTheRope odd = Check.told("sack 1 9;child 1 0 9;wind 59");
        Check.due("RISK", odd.childOf(0, 7), 75);
        Check.due("falls", odd.behind(0, 2, 1), 59);
        Check.due("59 and 2", odd.behind(0, 3, 1), 60);
    }

    private static void tillWay() {
        int[] ways = {1, 4, 5, 6, 9, 10, 11};
        int[] ins = {1, 1, 1, 2, 2, 2, 3};
        for (int i = 0; i < ways.length; i++) {
            InASackToTheRope x = Check.told("child 0 0 5;rope 0;way " + ways[i]);
            Check.due("IN by WAY " + ways[i], x.comesIn(0), ins[i]);
        }
        Check.due("AT the WAY", Check.told("child 0 0 5;rope 0;way 9;ahead 0 9").comesIn(0), 0);
        Check.due("beyond it", Check.told("child 0 0 5;rope 0;way 9;ahead 0 10").comesIn(0), 0);
        Check.due("a foot before", Check.told("child 0 0 5;rope 0;way 9;ahead 0 8").comesIn(0), 1);
    }

    private static void rope() {
        int[][] ropeLegsMore = {{0, 1, 0}, {0, 9, 0}, {1, 1, 0}, {2, 1, 1}, {9, 1, 8}, {9, 8, 1}, {9, 9, 0},
            {5, 4, 1}, {5, 5, 0}, {5, 6, 0}};
        for (int[] r : ropeLegsMore) {
            InASackToTheRope x = Check.told("child 0 0 " + r[1] + ";rope " + r[0] + ";way 9;ahead 0 9");
            Check.due("at the WAY, ROPE " + r[0] + ", LEGS " + r[1], x.comesIn(0), r[2]);
            x.ahead(0, 8);
            Check.due("a foot before, ROPE " + r[0] + ", LEGS " + r[1], x.comesIn(0), r[2] + 1);
        }
    }

    /** LEGS 1 in a SACK of LENGTH 9 with 9 HOLES: RISK 68, so 17 falls and 8 feet by 25 hops. */
    private static InASackToTheRope slow(int up, int way, int rope) {
        return Check.told("sack 9 9;child 0 0 1;up " + up + ";way " + way + ";rope " + rope);
    }

    private static void atMost() {
        // 36 feet: 110 hops and 74 falls of 12 seconds each, 998 in all
        Check.due("998", slow(12, 36, 0).comesIn(0), 998);
        Check.due("998, ROPE no more than LEGS", slow(12, 36, 1).comesIn(0), 998);
        Check.due("998 and 1", slow(12, 36, 2).comesIn(0), 999);
        Check.due("998 and 2", slow(12, 36, 3).comesIn(0), 999);
        Check.due("998 and 8", slow(12, 36, 9).comesIn(0), 999);
        Check.due("AT behind 997", slow(12, 36, 0).behind(0, 997, 0), 35);
        Check.due("AT behind 998", slow(12, 36, 0).behind(0, 998, 0), 36);
        Check.due("997 and 1", slow(1, 191, 2).comesIn(0), 998);
        Check.due("997 and 2", slow(1, 191, 3).comesIn(0), 999);
    }

    private static void never() {
        // 42 feet by UP 10: 129 hops and 87 falls, 999 seconds
        Check.due("just then", slow(10, 42, 0).comesIn(0), 999);
        Check.due("AT behind 998", slow(10, 42, 0).behind(0, 998, 0), 41);
        Check.due("AT behind 999", slow(10, 42, 0).behind(0, 999, 0), 42);
        Check.due("a foot more", slow(10, 43, 0).comesIn(0), 999);
        Check.due("AT behind 999", slow(10, 43, 0).behind(0, 999, 0), 42);
        Check.due("who falls at each hop", Check.told(NEVER + ";way 1;rope 0").comesIn(0), 999);
        Check.due("with ROPE", Check.told(NEVER + ";way 1;rope 9").comesIn(0), 999);
        Check.due("he hops, and falls, on each other SECOND", Check.told(NEVER).behind(0, 999, 4), 500);
    }

    private static void rolling() {
        InASackToTheRope x = rolls(FALLER);
        state(x, 2, 5, 18, 4, 5, 1);
        state(x, 3, 6, 20, 4, 4, 1);
        state(x, 7, 10, 28, 4, 0, 1);
        state(x, 8, 15, 27, 56, 0, 1);
        // he rolls to the WAY, and is IN as he lies
        x.ask(0, 10);
        Check.due("on the last SECOND", x.comesIn(0), 7);
        x.ask(0, 9);
        Check.due("a SECOND sooner", x.comesIn(0), 6);
        state(x, 999, 9, 26, 4, 1, 1);
        x.ask(0, 11);
        Check.due("a foot too far", x.comesIn(0), 8);
        x.ask(1, 1);
        state(x, 3, 6, 20, 4, 0, 1);
        x.roll(false);
        state(x, 3, 5, 20, 4, 0, 1);
        InASackToTheRope truth = rolls(NEVER + ";way 2;rope 0");
        Check.due("told", truth.comesIn(0), 4);
    }
}
