import java.util.function.Supplier;

/** Terms 3 as far as races are told: who, by how much, how, and each sentence's boundary cases. */
final class EdgesOfToldTest {
    /** No ROPE, and BREATH for all: without SACKS the time of who doesn't fall is WAY by STRIDE. */
    private static final String PLAIN = "way 12;rope 0;wind 60;";
    private static final String FIVE = "child 0 0 6;child 0 0 6;child 0 0 6;child 0 0 6;child 0 0 6";
    /** Falls at each hop, and never goes a foot. */
    private static final String NEVER = "sack 1 9;child 5 9 9;wind 0;up 1;rope 0";

    private EdgesOfToldTest() {
    }

    static void all() {
        Check.test("terms 3: nothing is changed", EdgesOfToldTest::nothingChanged);
        Check.test("terms 3: BEHIND n SECONDS, 0 to 999", EdgesOfToldTest::behind);
        Check.test("terms 3: WINS, of several the first", EdgesOfToldTest::winsOfSeveral);
        Check.test("terms 3: BY how many SECONDS, 0 alone", EdgesOfToldTest::by);
        Check.test("terms 3: HOW, of several the first", EdgesOfToldTest::how);
        Check.test("terms 3: SLOW is 1 only if CALM is ahead of GREEDY", EdgesOfToldTest::slow);
        Check.test("terms 3: BEST SACK, of several the first", EdgesOfToldTest::bestSack);
        Check.test("terms 3: ROLLS is 1 only if he would be IN sooner", EdgesOfToldTest::rolls);
        Check.test("terms 3: GIVEN to the first k, 1 to 5", EdgesOfToldTest::givenK);
        Check.test("terms 3: GIVEN, there are k SACKS at least", EdgesOfToldTest::givenSacks);
        Check.test("terms 3: GIVEN, each another SACK", EdgesOfToldTest::givenEach);
        Check.test("terms 3: GIVEN by law 0, 1, 2", EdgesOfToldTest::givenLaws);
        Check.test("terms 3: GIVEN, of several the first by rows of numbers", EdgesOfToldTest::givenFirst);
        Check.test("terms 3: TWO, LEGS the lesser of both", EdgesOfToldTest::twoLegs);
        Check.test("terms 3: TWO, SLACK by those and as much more as LEGS differ", EdgesOfToldTest::twoSlack);
        Check.test("terms 3: TWO in one SACK, the one told", EdgesOfToldTest::twoSack);
        Check.test("details: TWO have the KIND, a, AHEAD of the first one told", EdgesOfToldTest::twoFirst);
        Check.test("terms 3: PAIR, of several the first", EdgesOfToldTest::pair);
        Check.test("terms 3: PAIR in the first one's SACK", EdgesOfToldTest::pairSack);
        Check.test("terms 3: START is the least AHEAD, 0 to 99, or NONE", EdgesOfToldTest::start);
        Check.test("terms 3: ALL AT ONCE, his own START too", EdgesOfToldTest::atOnce);
        Check.test("terms 3: ALL AT ONCE is NONE, if one is NONE", EdgesOfToldTest::atOnceNone);
        Check.test("details: ALL AT ONCE is 0 without children", EdgesOfToldTest::atOnceEmpty);
        Check.test("terms 3: HEATS of k, 2 to 4, the last fewer", EdgesOfToldTest::heats);
        Check.test("terms 3: HEATS till one is left", EdgesOfToldTest::heatsOfOne);
        Check.test("terms 3: HEATS, who WINS each goes on", EdgesOfToldTest::heatsOn);
        Check.test("terms 3: LEGS, the least of 1 to 9, or NONE", EdgesOfToldTest::legs);
        Check.test("details: LEGS with 999 SECONDS is 1", EdgesOfToldTest::legs999);
        Check.test("terms 3: WALL is where he falls first, NONE if never", EdgesOfToldTest::wall);
        Check.test("terms 3: a told RACE, who is none", EdgesOfToldTest::toldNone);
        Check.test("terms 3: a told RACE, who was there", EdgesOfToldTest::toldTwice);
        Check.test("terms 3: a told RACE, who is IN sooner than the one before", EdgesOfToldTest::toldSooner);
        Check.test("terms 3: a told RACE of 0 to 8 elements", EdgesOfToldTest::toldSizes);
        Check.test("terms 3: MEANT, one SECOND for each child", EdgesOfToldTest::meantSizes);
        Check.test("terms 3: MEANT, bits of KINDS from none to all", EdgesOfToldTest::meantBits);
        Check.test("terms 3: WORN, bits of SACKS from none to all", EdgesOfToldTest::worn);
        Check.test("details: longs count by their lowest 32 bits", EdgesOfToldTest::longs);
    }

    private static InASackToTheRope plain(String text) {
        return Check.told(PLAIN + text);
    }

    private static void nothingChanged() {
        InASackToTheRope left = Edges.lived();
        InASackToTheRope x = Edges.lived();
        for (int what = 0; what <= 4; what++) {
            x.behind(0, 999, what);
        }
        for (int c = 0; c < 3; c++) {
            x.comesIn(c);
            x.legs(c, 20);
            x.wall(c);
            x.worn(c, 20);
            x.two(c, (c + 1) % 3, 1);
            x.start(c, (c + 1) % 3);
            for (int what = 0; what <= 3; what++) {
                x.best(c, what);
            }
        }
        for (int law = 0; law <= 2; law++) {
            x.given(law, 2, 1);
            x.heats(law + 2, 0);
        }
        x.wins(0);
        x.wins(1);
        x.pair();
        x.atOnce();
        x.judge(0, 3);
        x.meant(0);
        x.says(4, 0);
        Check.holds("all is as it was", Check.state(left).equals(Check.state(x)));
        for (int i = 1; i <= 7; i++) {
            Check.due("REFUSALS -" + i, x.status(10 + i), left.status(10 + i));
        }
        Check.due("the image", x.restore(), left.restore());
        Check.holds("all is as the image has it", Check.state(left).equals(Check.state(x)));
    }

    private static void behind() {
        InASackToTheRope x = Check.told("child 0 0 1;way 200;ahead 0 5");
        Edges.taken(x, "behind 0", y -> y.behind(0, 0, 0));
        Edges.taken(x, "behind 999", y -> y.behind(0, 999, 0));
        Check.due("AT at first", x.behind(0, 0, 0), 5);
        Check.due("AT in the end", x.behind(0, 999, 0), 200);
        Edges.left(Edges::lived, "n", 0, 999, (y, v) -> y.behind(0, v, 0), -6);
    }

    private static void winsOfSeveral() {
        InASackToTheRope x = plain("child 0 0 3;child 0 0 4;child 0 0 4;child 0 0 3");
        Check.due("of two the first", x.wins(0), 1);
        Check.due("of all the first", plain(FIVE).wins(0), 0);
        x.ahead(3, 6);
        Check.due("the last", x.wins(0), 3);
        Check.due("of those who never are the first", Check.told(NEVER + ";child 5 9 9").wins(0), 0);
    }

    private static void by() {
        Check.due("alone", plain("child 0 0 3").wins(1), 0);
        Check.due("alone, and never", Check.told(NEVER).wins(1), 0);
        Check.due("two at once", plain("child 0 0 3;child 0 0 3").wins(1), 0);
        Check.due("4 and 3", plain("child 0 0 3;child 0 0 4").wins(1), 1);
        Check.due("3 and 4", plain("child 0 0 4;child 0 0 3").wins(1), 1);
        Check.due("the next one, not the last", plain("child 0 0 1;child 0 0 3;child 0 0 6;child 0 0 4").wins(1), 1);
        Check.due("0 and 999", Check.told(NEVER + ";child 5 9 9;ahead 1 99").wins(1), 999);
    }

    private static void how() {
        Check.due("all seven at once", plain("child 3 0 5;ahead 0 99").best(0, 0), 0);
        // LONG and GREEDY are IN in two, RUNNING in three
        Check.due("LONG and GREEDY", plain("child 3 2 4;way 11").best(0, 0), 2);
        Check.due("GREEDY alone", plain("child 3 9 3").best(0, 0), 5);
        // falls by all KINDS too often for 200 feet
        Check.due("who never is", Check.told("sack 1 9;child 3 9 9;way 200;up 20").best(0, 0), 0);
        // a SACK of LENGTH 1 with LEGS 1: STRIDE 1 1 3 1 2 1 1, a foot to go
        Check.due("a foot", plain("sack 1 0;child 5 0 1;way 1").best(0, 0), 0);
        Check.due("three feet", plain("sack 1 0;child 5 0 1;way 3").best(0, 0), 2);
    }

    private static void slow() {
        Check.due("both at once", plain("child 0 0 1").best(0, 1), 0);
        Check.due("GREEDY sooner", plain("child 0 0 9").best(0, 1), 0);
        // CALM is IN by the first hop of 5, GREEDY falls at each
        InASackToTheRope x = Check.told("sack 1 9;child 0 9 9;wind 0;rope 0;way 1;up 1");
        Check.due("GREEDY never is", x.best(0, 1), 1);
        // with BREATH his first hop is of 18
        x.ask(3, 60);
        Check.due("both by the first hop", x.best(0, 1), 0);
        x.ask(0, 6);
        Check.due("GREEDY alone by the first hop", x.best(0, 1), 0);
    }

    private static void bestSack() {
        InASackToTheRope x = plain("child 4 0 5;sack 9 0;sack 5 0;sack 5 0");
        Check.due("the second and the third", x.best(0, 2), 1);
        Check.due("the only one", plain("child 4 0 5;sack 9 9").best(0, 2), 0);
        InASackToTheRope full = plain("child 4 0 5;sack 9 0;sack 9 0;sack 9 0;sack 9 0;sack 9 0;sack 9 0;sack 9 0");
        full.sack(5, 0);
        Check.due("the eighth", full.best(0, 2), 7);
        Check.due("who never is", Check.told(NEVER + ";sack 1 9;wears 0 1").best(0, 2), 0);
        Check.refused(() -> plain("child 4 0 5"), "BEST SACK without SACKS", y -> y.best(0, 2), -5);
    }

    private static void rolls() {
        // falls at the second hop, AT 5: the WAY is six feet off, rolling goes five
        Check.due("sooner", Check.told("sack 9 9;child 0 0 5;way 6;rope 0").best(0, 3), 1);
        Check.due("at 5 he is IN before he falls", Check.told("sack 9 9;child 0 0 5;way 5;rope 0").best(0, 3), 0);
        Check.due("who never falls", plain("child 0 0 5").best(0, 3), 0);
        // RISK 48: AT 17 he falls at the third hop, and lies a SECOND, or rolls to 18; the fourth hop is six feet
        InASackToTheRope same = Check.told("sack 9 9;child 0 0 6;ahead 0 5;way 19;rope 0;up 1");
        Check.due("told", same.comesIn(0), 5);
        Check.due("a foot of rolling is no sooner", same.best(0, 3), 0);
        same.ask(0, 18);
        Check.due("told", same.comesIn(0), 5);
        Check.due("a foot of rolling is a SECOND", same.best(0, 3), 1);
    }

    private static void givenK() {
        Supplier<InASackToTheRope> make = Edges::full;
        Check.due("k 1", make.get().given(0, 1, 0) >= 0 ? 1 : 0, 1);
        Check.due("k 5, the fifth", plain(FIVE + ";sack 6 0;sack 6 0;sack 6 0;sack 6 0;sack 6 0").given(0, 5, 4), 4);
        Edges.left(make, "k", 1, 5, (x, v) -> x.given(0, v, 0), -6);
        InASackToTheRope first = plain("child 4 0 5;child 4 0 9;sack 5 0;sack 9 0");
        Check.due("only the first child counts", first.given(0, 1, -1), 2);
    }

    private static void givenSacks() {
        String sacks = "sack 6 0;sack 6 0;sack 6 0;sack 6 0";
        Check.due("k SACKS", plain(FIVE + ";" + sacks).given(0, 4, 3), 3);
        Check.refused(() -> plain(FIVE + ";" + sacks), "a SACK too few", y -> y.given(0, 5, 0), -6);
        Check.refused(() -> plain(FIVE), "no SACKS", y -> y.given(0, 1, -1), -6);
        Check.refused(() -> plain("child 0 0 6;" + sacks), "a child too few", y -> y.given(0, 2, 0), -6);
        Check.refused(() -> plain(sacks), "no children", y -> y.given(0, 1, -1), -6);
    }

    private static void givenEach() {
        // RUNNING, LEGS 5: IN in 2 in a SACK of LENGTH 5, in 6 in one of 9
        InASackToTheRope x = plain("child 4 0 5;child 4 0 5;sack 5 0;sack 9 0");
        Check.due("together", x.given(0, 2, -1), 8);
        Check.due("the greatest", x.given(1, 2, -1), 6);
        Check.due("the difference", x.given(2, 2, -1), 4);
        Check.due("the first one's", x.given(0, 2, 0), 0);
        Check.due("the second one's", x.given(0, 2, 1), 1);
    }

    private static void givenLaws() {
        // RUNNING: LEGS 5 is IN in 2, 3, 6 (in 5, 3, 9), LEGS 3 in 6, 3, 12 or later
        InASackToTheRope x = plain("child 4 0 5;child 4 0 3;sack 5 0;sack 3 0;sack 9 0");
        Check.due("law 0", x.given(0, 2, -1), 5);
        Check.due("law 1", x.given(1, 2, -1), 3);
        Check.due("law 2", x.given(2, 2, -1), 0);
        Check.due("law 2, the first one's", x.given(2, 2, 0), 2);
        Check.due("law 2, the second one's", x.given(2, 2, 1), 0);
        Check.due("law 2 of one", x.given(2, 1, -1), 0);
        InASackToTheRope there = plain("child 0 0 5;child 0 0 3;ahead 0 12;ahead 1 12;sack 5 0;sack 3 0");
        for (int law = 0; law <= 2; law++) {
            Check.due("who are at the WAY, by law " + law, there.given(law, 2, -1), 0);
        }
        Edges.left(Edges::lived, "law", 0, 2, (y, v) -> y.given(v, 2, 0), -6);
    }

    private static void givenFirst() {
        InASackToTheRope alike = plain(FIVE + ";sack 6 0;sack 6 0;sack 6 0;sack 6 0;sack 6 0;sack 6 0;sack 6 0");
        for (int law = 0; law <= 2; law++) {
            for (int i = 0; i < 5; i++) {
                Check.due("given(" + law + ", 5, " + i + ")", alike.given(law, 5, i), i);
            }
        }
        // RUNNING, LEGS 5, best in the SACKS 1 and 2
        InASackToTheRope two = plain("child 4 0 5;child 4 0 5;sack 9 0;sack 5 0;sack 5 0");
        Check.due("1 and 2, not 2 and 1", two.given(0, 2, 0), 1);
        Check.due("1 and 2, not 2 and 1", two.given(0, 2, 1), 2);
        Check.due("the greatest: 1 and 2", two.given(1, 2, 0), 1);
    }

    private static void twoLegs() {
        // in a SACK of the lesser LEGS: STRIDE is those
        String text = "child 0 0 2;child 0 0 6;child 0 0 2;sack 2 0;way 2;rope 4";
        InASackToTheRope x = Check.told(text);
        Check.due("the first has the lesser: one hop and 2 of the ROPE", x.two(0, 1, 0), 3);
        Check.due("the second has", x.two(1, 0, 0), 3);
        Check.due("both have", x.two(0, 2, 0), 3);
    }

    private static void twoSlack() {
        // HOPPER, LEGS 1: RISK 1, so no fall by twelve hops
        InASackToTheRope x = plain("sack 1 0;child 0 0 1;child 0 0 9;child 0 0 1;child 0 0 2;up 1");
        Check.due("LEGS alike", x.two(0, 2, 0), 12);
        // one more of SLACK: RISK 6, twelve hops are 72
        Check.due("LEGS differ by 1", x.two(0, 3, 0), 12);
        // RISK 41: falls at the hops 3, 5, 8, 10, 13, 15, 18, so twelve feet by 19 hops, and seven SECONDS of lying
        Check.due("LEGS differ by 8", x.two(0, 1, 0), 26);
        Check.due("LEGS differ by 8, the other way about", x.two(1, 0, 0), 26);
        // RUNNING: STRIDE is LEGS and 1 less SLACK
        InASackToTheRope running = plain("sack 5 0;child 4 0 5;child 0 0 6");
        Check.due("STRIDE 5", running.two(0, 1, 0), 3);
        Check.due("alone STRIDE 6", running.comesIn(0), 2);
    }

    private static void twoSack() {
        // RUNNING, LEGS 5, in SACKS of LENGTH 9 and 5, whatever they wear
        InASackToTheRope x = plain("sack 9 0;sack 5 0;child 4 0 5;child 4 0 5");
        Check.due("the first one's", x.two(0, 1, 0), 6);
        Check.due("the other's", x.two(0, 1, 1), 2);
        Check.due("the other way about", x.two(1, 0, 0), 6);
        Check.due("the other way about", x.two(1, 0, 1), 2);
        Check.due("the SACKS stay", x.childOf(0, 3) * 10 + x.childOf(1, 3), 1);
    }

    private static void twoFirst() {
        InASackToTheRope x = plain("sack 3 0;child 5 9 3;child 0 1 3;ahead 0 0;ahead 1 6");
        Check.due("GREEDY with a 9", x.two(0, 1, 0), 1);
        Check.due("HOPPER, six feet ahead", x.two(1, 0, 0), 2);
        x.ahead(0, 0);
        x.ahead(1, 12);
        Check.due("the other's AHEAD is no matter", x.two(0, 1, 0), 1);
        Check.due("the first one's is", x.two(1, 0, 0), 0);
    }

    private static void pair() {
        Check.due("of three all alike", plain("sack 6 0;child 0 0 6;child 0 0 6;child 0 0 6").pair(), 1);
        Check.due("two", plain("sack 6 0;child 0 0 6;child 0 0 1").pair(), 1);
        InASackToTheRope x = plain("sack 6 0;child 0 0 1;child 0 0 6;child 0 0 6;child 0 0 6");
        Check.due("1 and 2, ahead of 1 and 3", x.pair(), 102);
        InASackToTheRope last = plain("sack 6 0;child 0 0 1;child 0 0 1;child 0 0 1");
        for (int c = 3; c < 6; c++) {
            last.child(0, 0, 1);
        }
        last.child(0, 0, 6);
        last.child(0, 0, 6);
        Check.due("the last two of eight", last.pair(), 607);
        Check.due("who never are", Check.told(NEVER + ";child 5 9 9").pair(), 1);
    }

    private static void pairSack() {
        // RUNNING, LEGS 5, in SACKS of LENGTH 9 and 5: the first one's is what counts
        InASackToTheRope x = plain("sack 9 0;sack 5 0;child 4 0 5;child 4 0 5;child 4 0 5");
        x.wears(2, 0);
        Check.due("1 and 2 in SACK 1", x.pair(), 102);
        x.wears(0, 1);
        Check.due("0 and 1 in SACK 1", x.pair(), 1);
        x.wears(0, 0);
        x.wears(1, 0);
        x.wears(2, 1);
        Check.due("the second one's is no matter", x.pair(), 1);
    }

    private static void start() {
        // the other is IN in one SECOND, one hop of LEGS 1
        InASackToTheRope x = Check.told("child 0 0 1;child 0 0 1;ahead 1 99;rope 0;way 100");
        Check.due("99", x.start(0, 1), 99);
        Check.due("0", x.start(1, 0), 0);
        InASackToTheRope far = Check.told("child 0 0 1;child 0 0 2;ahead 1 99;rope 0;way 101");
        Check.due("100 is too much", far.start(0, 1), -1);
        Check.due("99 against himself", far.start(1, 1), 99);
        Check.due("1 is enough", plain("child 0 0 4;child 0 0 6;way 9").start(0, 1), 1);
        Check.due("0 is enough", plain("child 0 0 4;child 0 0 6;way 8").start(0, 1), 0);
        Check.due("0 is more than enough", plain("child 0 0 6;child 0 0 4;way 9").start(0, 1), 0);
        Check.due("no later is as late", plain("child 0 0 4;child 0 0 4").start(0, 1), 0);
        Check.due("against who never is", Check.told(NEVER + ";child 5 9 9").start(1, 0), 0);
        InASackToTheRope rope = plain("child 0 0 1;child 0 0 9;rope 2;way 9");
        Check.due("a SECOND for the ROPE, and no foot", rope.start(0, 1), 9);
        rope.ask(2, 3);
        Check.due("two for the ROPE", rope.start(0, 1), -1);
        Check.free(rope, "NONE is no refusal", () -> rope.start(0, 1), -1);
    }

    private static void atOnce() {
        Check.due("alone, as he is", plain("child 0 0 4").atOnce(), 0);
        Check.due("alone, and ahead", plain("child 0 0 4;ahead 0 6").atOnce(), 4);
        Check.due("4 and 0", plain("child 0 0 4;child 0 0 6").atOnce(), 4);
        // the winner is IN in one SECOND by 99 feet and a hop, as all would be
        InASackToTheRope x = Check.told(Edges.EIGHT_CHILDREN + ";ahead 3 99;rope 0;way 100");
        Check.due("eight by 99", x.atOnce(), 792);
        Check.due("who never are", Check.told(NEVER + ";child 5 9 9").atOnce(), 0);
    }

    private static void atOnceNone() {
        InASackToTheRope x = Check.told("child 0 0 2;child 0 0 1;child 0 0 2;ahead 0 99;rope 0;way 101");
        Check.free(x, "100 for the second", x::atOnce, -1);
        x.ask(0, 100);
        Check.due("98 and 99 and 98", x.atOnce(), 295);
        InASackToTheRope last = Check.told("child 0 0 2;child 0 0 2;child 0 0 1;ahead 0 99;rope 0;way 101");
        Check.due("100 for the last", last.atOnce(), -1);
    }

    private static void atOnceEmpty() {
        InASackToTheRope x = new InASackToTheRope();
        Check.free(x, "atOnce()", x::atOnce, 0);
        x.sack(5, 5);
        Check.free(x, "atOnce() with a SACK", x::atOnce, 0);
    }

    private static void heats() {
        // children, and how many heats by 2, 3, 4
        int[][] heats = {{2, 1, 1, 1}, {3, 3, 1, 1}, {4, 3, 3, 1}, {5, 6, 3, 3}, {6, 6, 3, 3},
            {7, 7, 4, 3}, {8, 7, 4, 3}};
        for (int[] h : heats) {
            InASackToTheRope x = new InASackToTheRope();
            for (int c = 0; c < h[0]; c++) {
                x.child(0, 0, c == h[0] - 1 ? 9 : 1);
            }
            for (int k = 2; k <= 4; k++) {
                Check.due("heats of " + h[0] + " by " + k, x.heats(k, 1), h[k - 1]);
                Check.due("the last one of " + h[0] + " by " + k, x.heats(k, 0), h[0] - 1);
            }
        }
        Edges.left(Edges::lived, "k", 2, 4, (x, v) -> x.heats(v, 0), -6);
        Edges.left(Edges::lived, "k", 2, 4, (x, v) -> x.heats(v, 1), -6);
    }

    private static void heatsOfOne() {
        for (int k = 2; k <= 4; k++) {
            InASackToTheRope one = plain("child 0 0 1");
            Check.due("one is left", one.heats(k, 0), 0);
            Check.due("by no heat", one.heats(k, 1), 0);
        }
    }

    private static void heatsOn() {
        // of several who are IN first each goes on who is first
        Check.due("all alike", Check.told(Edges.EIGHT_CHILDREN).heats(2, 0), 0);
        InASackToTheRope x = plain("child 0 0 1;child 0 0 6;child 0 0 6;child 0 0 1");
        Check.due("1 and 2 at once", x.heats(2, 0), 1);
        Check.due("1 and 2 at once by three", x.heats(3, 0), 1);
        InASackToTheRope alone = plain("child 0 0 1;child 0 0 1;child 0 0 6");
        Check.due("alone in the last heat", alone.heats(2, 0), 2);
        // who was left before begins anew
        alone.ahead(0, 12);
        Check.due("the first, being at the WAY", alone.heats(2, 0), 0);
        alone.ahead(0, 0);
        alone.ahead(1, 12);
        Check.due("the second then", alone.heats(2, 0), 1);
        Check.due("by three heats", alone.heats(2, 1), 3);
    }

    private static void legs() {
        InASackToTheRope x = plain("child 0 0 5;way 9");
        int[] want = {-1, 9, 5, 3, 3, 2, 2, 2, 2, 1, 1};
        for (int v = 0; v < want.length; v++) {
            int seconds = v;
            Check.free(x, "legs(0, " + v + ")", () -> x.legs(0, seconds), want[v]);
        }
        x.ask(0, 10);
        Check.due("LEGS 10 would be wanted", x.legs(0, 1), -1);
        x.ahead(0, 10);
        Check.due("in 0 SECONDS", x.legs(0, 0), 1);
        x.ask(2, 9);
        Check.due("in 0 SECONDS with ROPE 9", x.legs(0, 0), 9);
        Check.due("in 8 SECONDS with it", x.legs(0, 8), 1);
        Check.due("in 7 SECONDS with it", x.legs(0, 7), 2);
        for (int v : new int[] {-1, Edges.MIN}) {
            Check.refused(Edges::lived, "v " + v, y -> y.legs(0, v), -16);
        }
    }

    private static void legs999() {
        // LEGS 1 in a SACK of LENGTH 9: 30 + 27 + 20 of RISK, 36 feet in 998 by UP 12
        InASackToTheRope slow = Check.told("sack 9 9;child 0 0 9;up 12;way 36;rope 0");
        Check.due("998 SECONDS", slow.legs(0, 998), 1);
        slow.ask(2, 2);
        Check.holds("998 SECONDS with the ROPE", slow.legs(0, 998) > 1);
        Check.due("999 SECONDS", slow.legs(0, 999), 1);
        Check.due("1000 SECONDS", slow.legs(0, 1000), 1);
        Check.due("who never is", Check.told(NEVER).legs(0, 999), 1);
        Check.due("more", Check.told(NEVER).legs(0, Edges.MAX), 1);
    }

    private static void wall() {
        // RISK 52: falls at the second hop, AT 5
        InASackToTheRope x = Check.told("sack 9 9;child 0 0 5;way 6");
        Check.due("AT 5", x.wall(0), 5);
        x.ask(0, 5);
        Check.free(x, "IN by the first hop", () -> x.wall(0), -1);
        x.ask(0, 200);
        Check.due("first, not last", x.wall(0), 5);
        Check.due("at the start", Check.told(NEVER).wall(0), 0);
        Check.due("at the start, ahead", Check.told(NEVER + ";ahead 0 39").wall(0), 39);
        Check.due("at the WAY he doesn't hop", Check.told(NEVER + ";ahead 0 40").wall(0), -1);
        // RISK 33: 99 by three hops, a fall by four
        InASackToTheRope four = Check.told("sack 9 8;child 0 0 9;way 27");
        Check.due("99 is no fall", four.wall(0), -1);
        four.ask(0, 28);
        Check.due("132 is one", four.wall(0), 27);
    }

    private static void judged(InASackToTheRope x, int want, long... told) {
        Check.row(x, 0, 3, told);
        Check.free(x, "judge of " + java.util.Arrays.toString(told), () -> x.judge(0, told.length), want);
    }

    private static void toldNone() {
        InASackToTheRope x = plain("child 0 0 6;child 0 0 4;child 0 0 3");
        judged(x, -1, 0, 1, 2);
        judged(x, 0, 3);
        judged(x, 0, -1);
        judged(x, 2, 0, 1, 3);
        judged(x, 2, 0, 1, -1);
        judged(x, 1, 0, Edges.MAX);
        judged(x, 1, 0, Edges.MIN);
        judged(new InASackToTheRope(), 0, 0);
    }

    private static void toldTwice() {
        InASackToTheRope x = plain("child 0 0 6;child 0 0 4;child 0 0 3");
        judged(x, 1, 0, 0);
        judged(x, 2, 0, 1, 1);
        judged(x, 3, 0, 1, 2, 2);
        InASackToTheRope same = plain("child 0 0 6;child 0 0 6;child 0 0 6");
        judged(same, 2, 1, 0, 1);
        judged(same, -1, 2, 0, 1);
    }

    private static void toldSooner() {
        InASackToTheRope x = plain("child 0 0 6;child 0 0 4;child 0 0 3;child 0 0 4");
        judged(x, 1, 1, 0);
        judged(x, -1, 0, 1, 3, 2);
        judged(x, -1, 0, 3, 1, 2);
        judged(x, 2, 0, 2, 1, 3);
        judged(x, -1, 2);
        InASackToTheRope never = Check.told(NEVER + ";child 5 9 9;child 0 0 9;ahead 2 40");
        judged(never, -1, 2, 1, 0);
        judged(never, 1, 0, 2);
    }

    private static void toldSizes() {
        InASackToTheRope x = Check.told(Edges.EIGHT_CHILDREN);
        judged(x, -1);
        judged(x, -1, 7, 6, 5, 4, 3, 2, 1, 0);
        judged(x, 7, 7, 6, 5, 4, 3, 2, 1, 1);
        Check.row(x, 0, 0, 7, 7, 7);
        Check.due("the first only", x.judge(0, 1), -1);
        Check.due("two", x.judge(0, 2), 1);
        Check.due("none of them", x.judge(0, 0), -1);
    }

    private static void meantSizes() {
        InASackToTheRope x = plain("child 0 0 6;child 0 0 6");
        Check.row(x, 0, 0, 2, 2);
        Check.due("as many as children", x.meant(0), 1 | 4 | 16 | 32 | 64);
        Check.row(x, 0, 0, 2, 2, 99);
        Check.due("more", x.meant(0), 1 | 4 | 16 | 32 | 64);
        Check.row(x, 0, 0, 2);
        Check.due("fewer", x.meant(0), -5);
        InASackToTheRope none = new InASackToTheRope();
        none.row(0, 0, 0);
        Check.free(none, "no children, no elements", () -> none.meant(0), 127);
    }

    private static void meantBits() {
        InASackToTheRope x = plain("child 6 0 5;ahead 0 12");
        Check.row(x, 0, 1, 0);
        Check.due("all KINDS", x.meant(0), 127);
        Check.row(x, 0, 1, 1);
        Check.due("none", x.meant(0), 0);
        Check.row(x, 0, 1, -1);
        Check.due("none", x.meant(0), 0);
        // LEGS 5, a 1: HOPPER 3, EVEN 3, LONG 2, CALM 4, RUNNING 2, GREEDY 2, TIPTOE 3
        InASackToTheRope five = plain("child 6 1 5");
        int[] want = {0, 0, 4 | 16 | 32, 1 | 2 | 64, 8, 0};
        for (int seconds = 0; seconds < want.length; seconds++) {
            Check.row(five, 0, 1, seconds);
            Check.due("by " + seconds, five.meant(0), want[seconds]);
        }
        InASackToTheRope never = Check.told("sack 1 9;child 0 9 9;wind 0;up 1;rope 0;way 200");
        Check.row(never, 0, 1, 999);
        Check.due("GREEDY at least never is", never.meant(0) & 32, 32);
    }

    private static void worn() {
        InASackToTheRope x = Check.told(Edges.EIGHT_SACKS + ";child 0 0 1;way 1;rope 0");
        Check.due("all SACKS", x.worn(0, 1), 255);
        for (int seconds : new int[] {0, 2, -1, 999, Edges.MIN, Edges.MAX}) {
            Check.free(x, "worn in " + seconds, () -> x.worn(0, seconds), 0);
        }
        InASackToTheRope last = plain("child 4 0 5;sack 9 0;sack 9 0;sack 9 0;sack 9 0;sack 9 0;sack 9 0;sack 9 0");
        last.sack(5, 0);
        Check.due("the eighth", last.worn(0, 2), 128);
        Check.due("the first seven", last.worn(0, last.comesIn(0)), 127);
        Check.due("who never is", Check.told(NEVER).worn(0, 999), 1);
        InASackToTheRope none = plain("child 0 0 6");
        Check.free(none, "without SACKS", () -> none.worn(0, 2), 0);
    }

    private static void longs() {
        InASackToTheRope x = plain("child 0 0 6;child 0 0 4");
        judged(x, -1, 1L << 32, 1 | -1L << 32);
        judged(x, 1, Long.MIN_VALUE, 1L << 31);
        Check.row(x, 0, 3, 2 | 1L << 32, 3 | Long.MIN_VALUE);
        Check.due("meant", x.meant(0), 1 | 16 | 32 | 64);
        Check.row(x, 0, 3, 2 | 1L << 31, 3);
        Check.due("meant, bit 31 counts", x.meant(0), 0);
    }
}
