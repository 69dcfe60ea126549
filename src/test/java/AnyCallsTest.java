import java.util.Random;

/** Any calls with any arguments: none throws, and the same calls always give the same answers. */
final class AnyCallsTest {
    private static final int OBJECTS = 300;
    private static final int CALLS = 512;
    private static final int[] ODD = {-1, -2, 7, 8, 9, 10, 99, 100, 159, 160, 161, 200, 999, 1000,
        Integer.MAX_VALUE, Integer.MIN_VALUE, Integer.MAX_VALUE - 1, 1 << 31, 65536};

    private AnyCallsTest() {
    }

    static void all() {
        Check.test("1 to 41, any calls twice", AnyCallsTest::twice);
        Check.test("1 to 41, calls that only ask change nothing", AnyCallsTest::asking);
    }

    private static void twice() {
        for (int seed = 0; seed < OBJECTS; seed++) {
            Check.due("the answers of " + seed, answers(seed), answers(seed));
        }
    }

    private static long answers(int seed) {
        Random random = new Random(seed);
        InASackToTheRope x = new InASackToTheRope();
        long answers = 0;
        for (int i = 0; i < CALLS; i++) {
            answers = answers * 31 + any(x, random, random.nextInt(41));
        }
        return answers;
    }

    private static int n(Random random) {
        int how = random.nextInt(12);
        return how == 0 ? ODD[random.nextInt(ODD.length)] : how < 9 ? random.nextInt(6) : random.nextInt(20);
    }

    private static long any(InASackToTheRope x, Random r, int which) {
        switch (which) {
            case 0: return x.row(n(r), n(r), n(r));
            case 1: return x.set(n(r), n(r), r.nextBoolean() ? r.nextLong() : n(r));
            case 2: return x.copy(n(r), n(r), n(r), n(r), n(r));
            case 3: return x.show(n(r), n(r));
            case 4: return x.child(n(r), n(r), n(r));
            case 5: return x.sack(n(r), n(r));
            case 6: return x.wears(n(r), n(r));
            case 7: return x.ahead(n(r), n(r));
            case 8: return x.ask(n(r), r.nextBoolean() ? r.nextInt(201) : n(r));
            case 9: return x.roll(r.nextBoolean());
            case 10: return x.field(n(r));
            case 11: return x.race();
            case 12: return x.summer(n(r), n(r));
            case 13: return x.seed(r.nextBoolean() ? r.nextInt() : n(r));
            case 14: return x.act(n(r), n(r), r.nextInt());
            case 15: return x.image();
            case 16: return r.nextInt(4) == 0 ? x.restore() : x.image();
            default: return asked(x, r, which);
        }
    }

    private static long asked(InASackToTheRope x, Random r, int which) {
        switch (which) {
            case 17: return x.element(n(r), n(r));
            case 18: return x.holds(n(r));
            case 19: return x.says(n(r), n(r));
            case 20: return x.childOf(n(r), n(r));
            case 21: return x.sackOf(n(r), n(r));
            case 22: return x.fault();
            case 23: return x.behind(n(r), n(r), n(r));
            case 24: return x.comesIn(n(r));
            case 25: return x.wins(n(r));
            case 26: return x.best(n(r), n(r));
            case 27: return x.given(n(r), n(r), n(r));
            case 28: return x.two(n(r), n(r), n(r));
            case 29: return x.pair();
            case 30: return x.start(n(r), n(r));
            case 31: return x.atOnce();
            case 32: return x.heats(n(r), n(r));
            case 33: return x.legs(n(r), n(r));
            case 34: return x.wall(n(r));
            case 35: return x.judge(n(r), n(r));
            case 36: return x.meant(n(r));
            case 37: return x.worn(n(r), n(r));
            case 38: return x.trace(n(r));
            default: return x.status(r.nextInt(20));
        }
    }

    private static void asking() {
        for (int seed = 0; seed < OBJECTS; seed++) {
            Random left = new Random(seed);
            Random asked = new Random(seed);
            InASackToTheRope x = new InASackToTheRope();
            InASackToTheRope y = new InASackToTheRope();
            Random question = new Random(-seed);
            for (int i = 0; i < 90; i++) {
                int which = left.nextInt(17);
                asked.nextInt(17);
                Check.due("call " + which, any(y, asked, which), any(x, left, which));
                asked(y, question, 17 + question.nextInt(24));
            }
            Check.holds("all is as without asking", Check.state(x).equals(Check.state(y)));
        }
    }
}
