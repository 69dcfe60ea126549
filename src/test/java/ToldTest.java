import java.util.function.Supplier;

/** Promises 19 to 33: what comes of a told race. */
final class ToldTest {
    /** Falls at every second hop: STRIDE 5, RISK 20 + 27 + 5. */
    private static final String FALLER = "sack 9 9;child 0 0 5";
    /** No rope, and breath for all: without SACKS the time is WAY by STRIDE. */
    private static final String PLAIN = "way 12;rope 0;wind 60";

    private ToldTest() {
    }

    static void all() {
        Check.test("19 behind, falling", ToldTest::behindFalling);
        Check.test("19 behind, BREATH", ToldTest::behindBreath);
        Check.test("19 behind, from the start to the way", ToldTest::behindEnds);
        Check.test("19 behind, refused", ToldTest::behindRefused);
        Check.test("20 comesIn", ToldTest::comesIn);
        Check.test("20 comesIn, 999 at most", ToldTest::comesInAtMost);
        Check.test("20 to 33, nobody is IN", ToldTest::nobodyIn);
        Check.test("21 wins", ToldTest::wins);
        Check.test("22 best, HOW", ToldTest::how);
        Check.test("22 best, SLOW", ToldTest::slow);
        Check.test("22 best, BEST SACK", ToldTest::bestSack);
        Check.test("22 best, ROLLS", ToldTest::rolls);
        Check.test("22 best, refused", ToldTest::bestRefused);
        Check.test("23 given", ToldTest::given);
        Check.test("23 given, refused", ToldTest::givenRefused);
        Check.test("24 two", ToldTest::two);
        Check.test("24 two, refused", ToldTest::twoRefused);
        Check.test("25 pair", ToldTest::pair);
        Check.test("26 start", ToldTest::start);
        Check.test("27 atOnce", ToldTest::atOnce);
        Check.test("28 heats", ToldTest::heats);
        Check.test("29 legs", ToldTest::legs);
        Check.test("30 wall", ToldTest::wall);
        Check.test("31 judge", ToldTest::judge);
        Check.test("31 judge, refused", ToldTest::judgeRefused);
        Check.test("32 meant", ToldTest::meant);
        Check.test("33 worn", ToldTest::worn);
    }

    private static InASackToTheRope plain(String text) {
        return Check.told(PLAIN + ";" + text);
    }

    private static void behindIs(InASackToTheRope x, int n, int... want) {
        for (int what = 0; what < want.length; what++) {
            Check.due("behind(0, " + n + ", " + what + ")", x.behind(0, n, what), want[what]);
        }
    }

    private static void behindFalling() {
        InASackToTheRope x = Check.told(FALLER);
        behindIs(x, 0, 0, 20, 0, 0, 0);
        behindIs(x, 1, 5, 19, 52, 0, 0);
        behindIs(x, 2, 5, 18, 4, 5, 1);
        behindIs(x, 3, 5, 20, 4, 4, 1);
        behindIs(x, 7, 5, 28, 4, 0, 1);
        behindIs(x, 8, 10, 27, 56, 0, 1);
        behindIs(x, 9, 10, 26, 8, 5, 2);
        x.roll(true);
        behindIs(x, 2, 5, 18, 4, 5, 1);
        behindIs(x, 3, 6, 20, 4, 4, 1);
        behindIs(x, 7, 10, 28, 4, 0, 1);
        behindIs(x, 8, 15, 27, 56, 0, 1);
        x.ask(0, 9);
        behindIs(x, 999, 9, 26, 4, 1, 1);
    }

    private static void behindBreath() {
        // 25 of RISK as long as BREATH is below 5; at the fourth hop WOBBLE is 100 just so
        InASackToTheRope greedy = Check.told("child 5 0 5;wind 0");
        behindIs(greedy, 3, 15, 1, 75, 0, 0);
        behindIs(greedy, 4, 15, 1, 0, 5, 1);
        behindIs(greedy, 9, 15, 11, 0, 0, 1);
        behindIs(greedy, 10, 20, 7, 5, 0, 1);
        behindIs(greedy, 11, 25, 3, 10, 0, 1);
        behindIs(greedy, 12, 30, 1, 35, 0, 1);
        // BREATH just as PUFF is enough
        InASackToTheRope hopper = Check.told("child 0 0 5;wind 2");
        behindIs(hopper, 1, 5, 1, 5, 0, 0);
        behindIs(hopper, 2, 10, 1, 30, 0, 0);
        // 60 at most, hopping and lying
        InASackToTheRope calm = Check.told("child 3 0 1;wind 59");
        behindIs(calm, 1, 1, 60, 1, 0, 0);
        behindIs(calm, 2, 2, 60, 2, 0, 0);
        InASackToTheRope faller = Check.told(FALLER + ";wind 60");
        behindIs(faller, 1, 5, 59, 52, 0, 0);
        behindIs(faller, 3, 5, 60, 4, 4, 1);
        behindIs(faller, 4, 5, 60, 4, 3, 1);
    }

    private static void behindEnds() {
        InASackToTheRope x = Check.told("child 0 0 5;ahead 0 7");
        behindIs(x, 0, 7, 20, 0, 0, 0);
        behindIs(x, 6, 37, 14, 30, 0, 0);
        behindIs(x, 7, 42, 13, 35, 0, 0);
        behindIs(x, 8, 42, 13, 35, 0, 0);
        behindIs(x, 999, 42, 13, 35, 0, 0);
        x.ask(0, 37);
        behindIs(x, 999, 37, 14, 30, 0, 0);
        x.ask(0, 7);
        behindIs(x, 999, 7, 20, 0, 0, 0);
    }

    private static void behindRefused() {
        Supplier<InASackToTheRope> make = () -> Check.told(FALLER);
        Check.refused(make, "behind(1, -1, 5)", y -> y.behind(1, -1, 5), -1);
        Check.refused(make, "behind(-1, 0, 0)", y -> y.behind(-1, 0, 0), -1);
        Check.refused(make, "behind(0, -1, 5)", y -> y.behind(0, -1, 5), -5);
        Check.refused(make, "behind(0, 0, -1)", y -> y.behind(0, 0, -1), -5);
        Check.refused(make, "behind(0, -1, 0)", y -> y.behind(0, -1, 0), -6);
        Check.refused(make, "behind(0, 1000, 0)", y -> y.behind(0, 1000, 0), -6);
    }

    private static void comesIn() {
        Check.due("five feet a hop", Check.told("child 0 0 5").comesIn(0), 8);
        Check.due("and 2 of the ROPE", Check.told("child 2 0 1;rope 3;way 9").comesIn(0), 5);
        Check.due("no less by long LEGS", Check.told("child 0 0 9;rope 3;way 9").comesIn(0), 1);
        Check.due("at the WAY already", Check.told("child 0 0 2;rope 3;way 5;ahead 0 5").comesIn(0), 1);
        Check.due("a foot before it", Check.told("child 0 0 2;rope 3;way 5;ahead 0 4").comesIn(0), 2);
        Check.due("beyond it", Check.told("child 0 0 3;rope 3;way 1;ahead 0 99").comesIn(0), 0);
        // two seconds for five feet and five lying, to the eighth foot-pair at the WAY
        Check.due("falling", Check.told(FALLER + ";way 10").comesIn(0), 8);
        Check.due("falling and rolling", rolling(FALLER + ";way 10").comesIn(0), 7);
        Supplier<InASackToTheRope> make = () -> Check.told("child 0 0 5");
        Check.refused(make, "comesIn(1)", y -> y.comesIn(1), -1);
        Check.refused(make, "comesIn(-1)", y -> y.comesIn(-1), -1);
    }

    private static InASackToTheRope rolling(String text) {
        InASackToTheRope x = Check.told(text);
        x.roll(true);
        return x;
    }

    private static void comesInAtMost() {
        // RISK 85, and 20 more for want of BREATH, which UP of 1 never mends
        InASackToTheRope never = Check.told("sack 1 9;child 5 9 9;wind 0;up 1;way 1");
        Check.due("never", never.comesIn(0), 999);
        Check.due("fell", never.behind(0, 999, 4), 500);
        never.ask(2, 9);
        Check.due("never", never.comesIn(0), 999);
        // LEGS 1, who is at so far a WAY just before 999: the ROPE doesn't lead beyond that
        int cut = 0;
        for (int way = 150; way <= 200; way++) {
            InASackToTheRope slow = Check.told("sack 9 9;child 0 0 1;rope 9;up 1;way " + way);
            int seconds = secondsTo(slow, way);
            int want = slow.behind(0, 999, 0) < way ? 999 : Math.min(999, seconds + 8);
            Check.due("comesIn by WAY " + way, slow.comesIn(0), want);
            cut += seconds > 991 && seconds < 999 ? 1 : 0;
        }
        Check.holds("some are cut to 999", cut > 0);
    }

    private static void nobodyIn() {
        InASackToTheRope x = Check.told("sack 1 9;sack 1 9;child 5 9 9;child 0 0 9;way 200;up 20");
        Check.due("comesIn(0)", x.comesIn(0), 999);
        Check.due("who", x.wins(0), 0);
        Check.due("by none", x.wins(1), 0);
        Check.due("HOW", x.best(0, 0), 0);
        Check.due("BEST SACK", x.best(0, 2), 0);
        Check.due("PAIR", x.pair(), 1);
        Check.due("together", x.given(0, 2, -1), 1998);
        Check.due("the first's", x.given(0, 2, 0), 0);
        Check.due("the second's", x.given(0, 2, 1), 1);
        Check.due("START", x.start(0, 1), 0);
        Check.due("ALL AT ONCE", x.atOnce(), 0);
        Check.due("the last heat", x.heats(2, 0), 0);
        Check.due("worn in 999", x.worn(0, 999), 3);
        judged(x, "all at once", -1, 1, 0);
        meantBy(x, 127, 999, 999);
    }

    private static int secondsTo(InASackToTheRope x, int way) {
        int early = 0;
        int late = 999;
        while (early < late) {
            int mid = (early + late) / 2;
            if (x.behind(0, mid, 0) >= way) {
                late = mid;
            } else {
                early = mid + 1;
            }
        }
        return late;
    }

    private static void wins() {
        InASackToTheRope x = plain("child 0 0 3;child 0 0 6;child 0 0 4");
        Check.due("who", x.wins(0), 1);
        Check.due("by", x.wins(1), 1);
        InASackToTheRope even = plain("child 0 0 1;child 0 0 5;child 0 0 4");
        Check.due("of several the first", even.wins(0), 1);
        Check.due("by none", even.wins(1), 0);
        InASackToTheRope one = plain("child 0 0 1");
        Check.due("alone", one.wins(0), 0);
        Check.due("alone by", one.wins(1), 0);
        InASackToTheRope first = plain("child 0 0 6;child 0 0 1");
        Check.due("who", first.wins(0), 0);
        Check.due("by", first.wins(1), 10);
        Supplier<InASackToTheRope> make = () -> plain("child 0 0 1");
        Check.refused(make, "wins(2)", y -> y.wins(2), -5);
        Check.refused(make, "wins(-1)", y -> y.wins(-1), -5);
        Check.refused(InASackToTheRope::new, "wins(0)", y -> y.wins(0), -5);
        Check.refused(InASackToTheRope::new, "wins(1)", y -> y.wins(1), -5);
    }

    private static void how() {
        Check.due("GREEDY", plain("child 0 9 3").best(0, 0), 5);
        Check.due("LONG and GREEDY: the first", plain("child 0 2 3").best(0, 0), 2);
        Check.due("at the WAY by all: the first", plain("child 6 0 9;ahead 0 99").best(0, 0), 0);
        InASackToTheRope x = plain("child 3 0 6");
        Check.due("two hops by four KINDS: the first", x.best(0, 0), 0);
        x.ask(0, 14);
        Check.due("two hops by LONG and RUNNING: the first", x.best(0, 0), 2);
        x.ask(0, 8);
        Check.due("one hop by LONG", x.best(0, 0), 2);
        Check.due("the KIND stays", x.childOf(0, 0), 3);
        Check.due("RUNNING, as LONG falls", Check.told("sack 9 9;child 0 0 9;way 80;wind 60").best(0, 0), 4);
    }

    private static void slow() {
        Check.due("GREEDY is IN first", plain("child 0 9 3").best(0, 1), 0);
        Check.due("both at once", plain("child 0 0 1").best(0, 1), 0);
        // GREEDY without BREATH falls at the fourth hop; CALM takes 14 seconds for 40 feet
        Check.due("CALM is", Check.told("child 0 0 5;wind 0;up 20").best(0, 1), 1);
    }

    private static void bestSack() {
        InASackToTheRope x = plain("child 4 0 5;sack 9 0;sack 5 0;sack 5 0;sack 1 0");
        Check.due("the first that fits", x.best(0, 2), 1);
        Check.due("the SACK stays", x.childOf(0, 3), 0);
        InASackToTheRope other = plain("child 4 0 5;sack 5 1;sack 5 0");
        Check.due("HOLES are no matter for two hops", other.best(0, 2), 0);
    }

    private static void rolls() {
        InASackToTheRope x = Check.told(FALLER);
        Check.due("he falls", x.best(0, 3), 1);
        Check.due("nobody rolls by that", x.status(6), 0);
        Check.due("as it is", x.behind(0, 3, 0), 5);
        x.roll(true);
        Check.due("sooner than not ROLLING", x.best(0, 3), 1);
        Check.due("all roll still", x.status(6), 1);
        Check.due("he never falls", plain("child 0 0 3").best(0, 3), 0);
    }

    private static void bestRefused() {
        Supplier<InASackToTheRope> make = () -> Check.told("child 0 0 1");
        Check.refused(make, "best(1, 4)", y -> y.best(1, 4), -1);
        Check.refused(make, "best(-1, 0)", y -> y.best(-1, 0), -1);
        Check.refused(make, "best(0, 4)", y -> y.best(0, 4), -5);
        Check.refused(make, "best(0, -1)", y -> y.best(0, -1), -5);
        Check.refused(make, "best(0, 2) without SACKS", y -> y.best(0, 2), -5);
    }

    private static void given() {
        // IN of the first in the SACKS 2, 3, 6; of the second 6, 3, above 12
        String text = "child 4 0 5;child 4 0 3;child 0 0 1;sack 5 0;sack 3 0;sack 9 0";
        InASackToTheRope x = plain(text);
        Check.due("together", x.given(0, 2, -1), 5);
        Check.due("the first's", x.given(0, 2, 0), 0);
        Check.due("the second's", x.given(0, 2, 1), 1);
        Check.due("the greatest", x.given(1, 2, -1), 3);
        Check.due("the first's", x.given(1, 2, 0), 0);
        Check.due("the difference", x.given(2, 2, -1), 0);
        Check.due("the first's", x.given(2, 2, 0), 2);
        Check.due("the second's", x.given(2, 2, 1), 0);
        Check.due("one alone", x.given(0, 1, -1), 2);
        Check.due("no difference", x.given(2, 1, -1), 0);
        Check.due("of several the first", x.given(2, 1, 0), 0);
        Check.due("the SACKS stay", x.childOf(0, 3), 0);
        // all alike: the first by rows of numbers
        InASackToTheRope alike = plain("child 0 0 3;child 0 0 3;child 0 0 3;child 0 0 3;child 0 0 3;"
                + "sack 3 0;sack 3 0;sack 3 0;sack 3 0;sack 3 0;sack 3 0");
        for (int law = 0; law < 3; law++) {
            for (int i = 0; i < 5; i++) {
                Check.due("given(" + law + ", 5, " + i + ")", alike.given(law, 5, i), i);
            }
        }
        Check.due("five together", alike.given(0, 5, -1), 20);
    }

    private static void givenRefused() {
        Supplier<InASackToTheRope> make = () -> plain("child 4 0 5;child 4 0 3;sack 5 0;sack 3 0;sack 9 0");
        Check.refused(make, "given(3, 2, 2)", y -> y.given(3, 2, 2), -6);
        Check.refused(make, "given(-1, 2, 0)", y -> y.given(-1, 2, 0), -6);
        Check.refused(make, "given(0, 0, 0)", y -> y.given(0, 0, 0), -6);
        Check.refused(make, "given(0, -1, 9)", y -> y.given(0, -1, 9), -6);
        Check.refused(make, "more than children", y -> y.given(0, 3, 3), -6);
        Check.refused(make, "given(0, 2, 2)", y -> y.given(0, 2, 2), -5);
        Check.refused(make, "given(0, 2, -2)", y -> y.given(0, 2, -2), -5);
        Check.refused(() -> plain("child 0 0 1;child 0 0 1;sack 1 1"), "more than SACKS",
                y -> y.given(0, 2, 0), -6);
        Check.refused(() -> plain("child 0 0 1;child 0 0 1;child 0 0 1;child 0 0 1;child 0 0 1;child 0 0 1;"
                + "sack 1 1;sack 1 1;sack 1 1;sack 1 1;sack 1 1;sack 1 1"), "six", y -> y.given(0, 6, 0), -6);
    }

    private static void two() {
        // LEGS 5, SLACK 1 + 3, RISK 20 + 3 + 5, four feet ahead of 30: a fall at the fourth hop
        String text = "child 0 3 5;child 4 0 8;sack 6 1;sack 9 0;way 30;ahead 0 4;wind 8";
        InASackToTheRope x = Check.told(text);
        Check.due("two(0, 1, 0)", x.two(0, 1, 0), 12);
        Check.due("nothing is changed", x.comesIn(0), 6);
        InASackToTheRope rope = plain("child 2 0 7;child 0 0 2;sack 2 0;rope 4;ahead 1 9");
        // LONG with LEGS 2: three hops and 2 of the ROPE; SLACK 5, RISK 29
        Check.due("the KIND, AHEAD of the first, LEGS of the lesser", rope.two(0, 1, 0), 5);
        // HOPPER with LEGS 2, nine feet ahead: two hops and 2
        Check.due("the other way about", rope.two(1, 0, 0), 4);
        InASackToTheRope greedy = plain("child 5 9 1;child 5 0 3;sack 1 0");
        Check.due("the a of the first", greedy.two(0, 1, 0), 2);
        // STRIDE 1, SLACK 2, RISK 11: a fall at the tenth of thirteen hops
        Check.due("the a of the first", greedy.two(1, 0, 0), 18);
    }

    private static void twoRefused() {
        Supplier<InASackToTheRope> make = () -> plain("child 0 0 5;child 0 0 3;sack 5 0");
        Check.refused(make, "two(0, 2, 0)", y -> y.two(0, 2, 0), -1);
        Check.refused(make, "two(2, 0, 0)", y -> y.two(2, 0, 0), -1);
        Check.refused(make, "two(0, 1, 1)", y -> y.two(0, 1, 1), -1);
        Check.refused(make, "two(0, 1, -1)", y -> y.two(0, 1, -1), -1);
        Check.refused(make, "two(2, 2, 0)", y -> y.two(2, 2, 0), -1);
        Check.refused(make, "two(1, 1, 1)", y -> y.two(1, 1, 1), -1);
        Check.refused(make, "two(1, 1, 0)", y -> y.two(1, 1, 0), -6);
    }

    private static void pair() {
        InASackToTheRope x = plain("child 0 0 1;child 0 0 4;child 0 0 4;child 0 0 4;sack 4 0");
        Check.due("of several the first", x.pair(), 102);
        Check.due("two", plain("child 0 0 1;child 0 0 4;sack 4 0").pair(), 1);
        InASackToTheRope sacks = plain("sack 9 0;sack 4 0;sack 9 0;child 4 0 4;child 4 0 4;child 4 0 4");
        Check.due("in the first one's SACK", sacks.pair(), 102);
        sacks.wears(0, 1);
        Check.due("in the first one's SACK", sacks.pair(), 1);
        Check.refused(() -> plain("child 0 0 1;sack 4 0"), "one", y -> y.pair(), -5);
        Check.refused(() -> plain("child 0 0 1;child 0 0 1"), "no SACKS", y -> y.pair(), -5);
        Check.refused(InASackToTheRope::new, "none", y -> y.pair(), -5);
    }

    private static void start() {
        InASackToTheRope x = plain("child 0 0 3;child 0 0 6");
        Check.due("start(0, 1)", x.start(0, 1), 6);
        Check.due("start(1, 0)", x.start(1, 0), 0);
        Check.due("start(0, 0)", x.start(0, 0), 0);
        Check.due("AHEAD stays", x.childOf(0, 4), 0);
        x.ahead(0, 50);
        Check.due("his own AHEAD doesn't count", x.start(0, 1), 6);
        Check.due("the other's does", x.start(1, 0), 12);
        x.ahead(0, 1);
        Check.due("against himself ahead", x.start(0, 0), 0);
        x.ahead(0, 3);
        Check.due("against himself three ahead", x.start(0, 0), 3);
        InASackToTheRope edge = plain("child 0 0 1;child 2 0 9;ahead 1 99;way 100");
        Check.due("99 just so", edge.start(0, 1), 99);
        edge.ask(0, 101);
        Check.due("100 is too much", edge.start(0, 1), -1);
        InASackToTheRope rope = plain("child 0 0 1;child 0 0 9;way 9;rope 3");
        Check.due("the ROPE alone takes longer", rope.start(0, 1), -1);
        InASackToTheRope never = Check.told("sack 1 9;child 5 9 9;wind 0;up 1;way 200;child 0 0 1;rope 9");
        Check.due("who never is", never.start(1, 0), 0);
        Check.due("who never is, against another", never.start(0, 0), 0);
        Supplier<InASackToTheRope> make = () -> plain("child 0 0 3;child 0 0 6");
        Check.refused(make, "start(2, 0)", y -> y.start(2, 0), -11);
        Check.refused(make, "start(0, 2)", y -> y.start(0, 2), -11);
        Check.refused(make, "start(-1, 0)", y -> y.start(-1, 0), -11);
    }

    private static void atOnce() {
        Check.due("without children", new InASackToTheRope().atOnce(), 0);
        Check.due("no refusal", new InASackToTheRope().status(15), 0);
        InASackToTheRope x = plain("child 0 0 3;child 0 0 6;child 0 0 4");
        Check.due("6 and 0 and 4", x.atOnce(), 10);
        x.ahead(1, 6);
        Check.due("9 and 6 and 8", x.atOnce(), 23);
        InASackToTheRope far = plain("child 0 0 1;child 2 0 9;ahead 1 99;way 100");
        Check.due("99 and 89", far.atOnce(), 188);
        far.ask(0, 101);
        Check.due("one is NONE", far.atOnce(), -1);
        Check.due("alone", plain("child 0 0 1;ahead 0 5").atOnce(), 5);
    }

    private static void heats() {
        InASackToTheRope x = plain("child 0 0 1;child 0 0 2;child 0 0 6;child 0 0 4;child 0 0 6");
        Check.due("who by two", x.heats(2, 0), 2);
        Check.due("heats by two", x.heats(2, 1), 6);
        Check.due("who by three", x.heats(3, 0), 2);
        Check.due("heats by three", x.heats(3, 1), 3);
        Check.due("heats by four", x.heats(4, 1), 3);
        x.ahead(0, 12);
        Check.due("who, the first being ahead now", x.heats(2, 0), 0);
        InASackToTheRope eight = plain("child 0 0 1;child 0 0 1;child 0 0 1;child 0 0 1;"
                + "child 0 0 1;child 0 0 1;child 0 0 1;child 0 0 6");
        Check.due("the last", eight.heats(2, 0), 7);
        Check.due("4 and 2 and 1", eight.heats(2, 1), 7);
        Check.due("3 and 1", eight.heats(3, 1), 4);
        Check.due("2 and 1", eight.heats(4, 1), 3);
        InASackToTheRope one = plain("child 0 0 1");
        Check.due("one is left", one.heats(2, 0), 0);
        Check.due("no heat", one.heats(2, 1), 0);
        Supplier<InASackToTheRope> make = () -> plain("child 0 0 1;child 0 0 1");
        Check.refused(make, "heats(5, 2)", y -> y.heats(5, 2), -5);
        Check.refused(make, "heats(2, -1)", y -> y.heats(2, -1), -5);
        Check.refused(make, "heats(5, 0)", y -> y.heats(5, 0), -6);
        Check.refused(make, "heats(1, 1)", y -> y.heats(1, 1), -6);
        Check.refused(InASackToTheRope::new, "heats(5, 0)", y -> y.heats(5, 0), -5);
    }

    private static void legs() {
        InASackToTheRope x = plain("child 0 0 9");
        int[] want = {-1, -1, 6, 4, 3, 3, 2, 2, 2, 2, 2, 2, 1};
        for (int v = 0; v < want.length; v++) {
            Check.due("legs(0, " + v + ")", x.legs(0, v), want[v]);
        }
        Check.due("LEGS stay", x.childOf(0, 2), 9);
        Check.due("999 SECONDS", Check.told("sack 1 9;child 5 9 9;wind 0;up 1").legs(0, 999), 1);
        Check.due("more", x.legs(0, Integer.MAX_VALUE), 1);
        InASackToTheRope rope = plain("child 0 0 9;rope 3;ahead 0 12");
        Check.due("at once", rope.legs(0, 0), 3);
        Check.due("a second for the ROPE", rope.legs(0, 1), 2);
        // RUNNING in a SACK of 5: STRIDE of LEGS 4 is 4, of 5 it is 6, of 6 it is 6
        InASackToTheRope sack = plain("child 4 0 9;sack 5 0");
        Check.due("the SLACK goes with the LEGS", sack.legs(0, 2), 5);
        Check.due("the SLACK goes with the LEGS", sack.legs(0, 3), 4);
        Supplier<InASackToTheRope> make = () -> plain("child 0 0 1");
        Check.refused(make, "legs(1, -1)", y -> y.legs(1, -1), -11);
        Check.refused(make, "legs(-1, 5)", y -> y.legs(-1, 5), -11);
        Check.refused(make, "legs(0, -1)", y -> y.legs(0, -1), -16);
    }

    private static void wall() {
        InASackToTheRope x = Check.told(FALLER + ";ahead 0 3");
        Check.due("as it falls first", x.wall(0), 8);
        x.ask(0, 8);
        Check.due("it is IN before", x.wall(0), -1);
        x.ask(0, 9);
        Check.due("a foot more", x.wall(0), 8);
        Check.due("never", Check.told("child 0 0 5").wall(0), -1);
        Check.due("at the start", Check.told("sack 1 9;child 5 9 9;wind 0").wall(0), 0);
        Check.refused(() -> Check.told("child 0 0 5"), "wall(1)", y -> y.wall(1), -11);
        Check.refused(() -> Check.told("child 0 0 5"), "wall(-1)", y -> y.wall(-1), -11);
    }

    private static void judge() {
        InASackToTheRope x = plain("child 0 0 3;child 0 0 6;child 0 0 4;child 0 0 3");
        judged(x, "by their times", -1, 1, 2, 0, 3);
        judged(x, "at once either way", -1, 1, 2, 3, 0);
        judged(x, "who is IN sooner", 1, 0, 1);
        judged(x, "the first of those", 2, 1, 0, 2, 1);
        judged(x, "who is none", 1, 1, 4, 0);
        judged(x, "who is none", 0, -1, 1);
        judged(x, "who was there", 2, 1, 2, 1);
        judged(x, "who was there, just before", 2, 1, 0, 0);
        judged(x, "nobody", -1);
        Check.row(x, 0, 3, 1 + (1L << 32), 2 - (1L << 32), (1L << 31));
        Check.due("longs by their lowest 32 bits", x.judge(0, 3), 2);
        Check.due("the first two", x.judge(0, 2), -1);
        Check.row(x, 0, 0, 0, 1, 0, 0, 0, 0, 0, 0, 0);
        Check.due("eight", x.judge(0, 8), 1);
        Check.due("one", x.judge(0, 1), -1);
    }

    private static void judged(InASackToTheRope x, String how, int want, long... children) {
        Check.row(x, 0, 2, children);
        Check.free(x, how, () -> x.judge(0, children.length), want);
    }

    private static void judgeRefused() {
        Supplier<InASackToTheRope> make = () -> {
            InASackToTheRope x = plain("child 0 0 3");
            x.show(1, 0);
            x.row(0, 0, 9);
            x.row(3, 0, 8);
            return x;
        };
        Check.refused(make, "judge(8, -1)", y -> y.judge(8, -1), -11);
        Check.refused(make, "judge(-1, 0)", y -> y.judge(-1, 0), -11);
        Check.refused(make, "judge(1, -1)", y -> y.judge(1, -1), -12);
        Check.refused(make, "judge(2, -1)", y -> y.judge(2, -1), -13);
        Check.refused(make, "judge(0, -1)", y -> y.judge(0, -1), -14);
        Check.refused(make, "judge(0, 10)", y -> y.judge(0, 10), -15);
        Check.refused(make, "judge(3, 9)", y -> y.judge(3, 9), -15);
        Check.refused(make, "judge(0, 9)", y -> y.judge(0, 9), -16);
    }

    private static void meant() {
        // LEGS 5 and 1, a 1: HOPPER 3 12, EVEN 3 12, LONG 2 4, CALM 4 12, RUNNING 2 6, GREEDY 2 6, TIPTOE 3 12
        InASackToTheRope x = plain("child 0 1 5;child 3 1 1");
        meantBy(x, 1 | 2 | 64, 3, 12);
        meantBy(x, 4, 2, 4);
        meantBy(x, 8, 4, 12);
        meantBy(x, 16 | 32, 2, 6, 99);
        meantBy(x, 0, 2, 12);
        Check.row(x, 0, 3, 4 + (3L << 32), 12);
        Check.due("the lowest 32 bits", x.meant(0), 8);
        InASackToTheRope none = new InASackToTheRope();
        none.row(0, 0, 0);
        Check.due("no children: all KINDS", none.meant(0), 127);
        Supplier<InASackToTheRope> make = () -> {
            InASackToTheRope y = plain("child 0 1 5;child 3 1 1");
            y.show(1, 0);
            y.row(0, 0, 1);
            return y;
        };
        Check.refused(make, "meant(8)", y -> y.meant(8), -1);
        Check.refused(make, "meant(1)", y -> y.meant(1), -2);
        Check.refused(make, "meant(2)", y -> y.meant(2), -3);
        Check.refused(make, "meant(0)", y -> y.meant(0), -5);
    }

    private static void meantBy(InASackToTheRope x, int want, long... seconds) {
        Check.row(x, 0, 1, seconds);
        Check.free(x, "meant by " + seconds[0] + ", " + seconds[1], () -> x.meant(0), want);
    }

    private static void worn() {
        // RUNNING, LEGS 5, in 9, 5, 1, 6: STRIDE 2 6 2 5
        InASackToTheRope x = plain("child 4 0 5;sack 9 0;sack 5 0;sack 1 0;sack 6 0");
        Check.due("in 6", x.worn(0, 6), 5);
        Check.due("in 2", x.worn(0, 2), 2);
        Check.due("in 3", x.worn(0, 3), 8);
        Check.due("in 4", x.worn(0, 4), 0);
        Check.due("in -1", x.worn(0, -1), 0);
        Check.due("in max", x.worn(0, Integer.MAX_VALUE), 0);
        Check.due("no SACKS", plain("child 0 0 3").worn(0, 4), 0);
        Check.refused(() -> plain("child 0 0 3"), "worn(1, 4)", y -> y.worn(1, 4), -1);
        Check.refused(() -> plain("child 0 0 3"), "worn(-1, 4)", y -> y.worn(-1, 4), -1);
    }
}
