import java.util.Random;

/** Promises 1 to 41 together: runs of any calls, each answer held against the model of the document. */
final class ModelTest {
    private static final int OBJECTS = 500;
    private static final int CALLS = 512;
    private static final int[] ODD = {-1, -2, 7, 8, 9, 10, 61, 99, 100, 159, 160, 161, 200, 201, 998, 999, 1000,
        Integer.MAX_VALUE, Integer.MIN_VALUE, 65536};

    private final InASackToTheRope x = new InASackToTheRope();
    private final Model m = new Model();
    private final Random random;
    private final int run;
    private final StringBuilder calls = new StringBuilder();
    private int made;
    private boolean wrong;

    private ModelTest(int run) {
        this.run = run;
        random = new Random(run);
    }

    static void all() {
        Check.test("1 to 41, runs of calls by the model", ModelTest::runs);
    }

    private static void runs() {
        for (int run = 0; run < OBJECTS; run++) {
            ModelTest test = new ModelTest(run);
            if (run % 10 != 0) {
                test.make();
            }
            while (test.made < CALLS && !test.wrong) {
                test.step();
            }
        }
    }

    private boolean due(String call, long got, long want) {
        made++;
        if (made <= CALLS && !wrong) {
            calls.append(call).append(' ').append(got).append('\n');
            if (got != want) {
                wrong = true;
                Check.fail("run " + run + "\n" + calls + "  due is " + want);
            }
        }
        return true;
    }

    /** A number that mostly is one below the bound, at times one beyond. */
    private int n(int below) {
        int how = random.nextInt(25);
        return how == 0 ? ODD[random.nextInt(ODD.length)] : how == 1 ? below : random.nextInt(below);
    }

    private int kid() {
        return n(Math.max(1, m.status(0)));
    }

    private int sack() {
        return n(Math.max(1, m.status(1)));
    }

    private void make() {
        int sacks = random.nextInt(7);
        int children = random.nextInt(8);
        for (int s = 0; s < sacks; s++) {
            step(5);
        }
        for (int c = 0; c < children; c++) {
            step(4);
        }
        for (int i = 0; i < 6; i++) {
            step(7 + random.nextInt(3));
        }
    }

    private void step() {
        int how = random.nextInt(60);
        if (how == 0) {
            text();
        } else if (how == 1) {
            order();
        } else if (how == 2) {
            seconds();
        } else {
            step(random.nextInt(41));
        }
    }

    private void row(int s, int sort, long... elements) {
        due("row " + s + " " + sort + " " + elements.length, x.row(s, sort, elements.length),
                m.row(s, sort, elements.length));
        for (int i = 0; i < elements.length; i++) {
            due("set " + s + " " + i + " " + elements[i], x.set(s, i, elements[i]), m.set(s, i, elements[i]));
        }
    }

    private void text() {
        int s = random.nextInt(8);
        String text = TextOracleTest.any(random);
        int end = Math.min(text.length(), 60);
        row(s, random.nextInt(4), Check.letters(text.substring(0, end)));
        due("field " + s, x.field(s), m.field(s));
        due("fault", x.fault(), m.fault());
    }

    /** Children in the order in which they are IN, at times with one that isn't so. */
    private void order() {
        int s = random.nextInt(8);
        int children = m.status(0);
        long[] order = new long[children];
        for (int i = 0; i < children; i++) {
            int at = i;
            while (at > 0 && m.comesIn((int) order[at - 1]) > m.comesIn(i)) {
                order[at] = order[at - 1];
                at--;
            }
            order[at] = i;
        }
        if (children > 0 && random.nextInt(3) == 0) {
            order[random.nextInt(children)] = random.nextInt(9);
        }
        row(s, random.nextInt(4), order);
        int n = children + (random.nextInt(8) == 0 ? 1 : 0);
        due("judge " + s + " " + n, x.judge(s, n), m.judge(s, n));
    }

    private void seconds() {
        int s = random.nextInt(8);
        long[] seconds = new long[m.status(0)];
        for (int c = 0; c < seconds.length; c++) {
            seconds[c] = m.comesIn(c);
        }
        row(s, 1 + random.nextInt(3), seconds);
        due("meant " + s, x.meant(s), m.meant(s));
        for (int c = 0; c < seconds.length; c++) {
            due("worn " + c + " " + seconds[c], x.worn(c, (int) seconds[c]), m.worn(c, (int) seconds[c]));
        }
    }

    private void step(int which) {
        if (!ofShelves(which) && !ofTheField(which) && !asked(which)) {
            left(which);
        }
    }

    private boolean ofShelves(int which) {
        int s = n(8);
        int q = n(8);
        int i = n(4);
        int j = n(4);
        int n = n(5);
        switch (which) {
            case 0:
                int size = n(8);
                return due("row " + s + " " + i + " " + size, x.row(s, i, size), m.row(s, i, size));
            case 1:
                long v = random.nextBoolean() ? random.nextLong() : n(10);
                return due("set " + s + " " + i + " " + v, x.set(s, i, v), m.set(s, i, v));
            case 2:
                return due("copy " + s + " " + q + " " + i + " " + j + " " + n, x.copy(s, q, i, j, n),
                        m.copy(s, q, i, j, n));
            case 3:
                int child = random.nextInt(4) == 0 ? -1 : kid();
                return due("show " + s + " " + child, x.show(s, child), m.show(s, child));
            case 10:
                return due("field " + s, x.field(s), m.field(s));
            case 17:
                return due("element " + s + " " + i, x.element(s, i), m.element(s, i));
            case 18:
                return due("holds " + s, x.holds(s), m.holds(s));
            case 19:
                int kind = n(7);
                return due("says " + s + " " + kind, x.says(s, kind), m.says(s, kind));
            case 35:
                int judged = n(9);
                return due("judge " + s + " " + judged, x.judge(s, judged), m.judge(s, judged));
            case 36:
                return due("meant " + s, x.meant(s), m.meant(s));
            default:
                return false;
        }
    }

    private boolean ofTheField(int which) {
        int child = kid();
        int sack = sack();
        switch (which) {
            case 4:
                int kind = n(7);
                int a = n(10);
                int legs = 1 + n(9);
                return due("child " + kind + " " + a + " " + legs, x.child(kind, a, legs), m.child(kind, a, legs));
            case 5:
                int length = 1 + n(9);
                int holes = n(10);
                return due("sack " + length + " " + holes, x.sack(length, holes), m.sack(length, holes));
            case 6:
                return due("wears " + child + " " + sack, x.wears(child, sack), m.wears(child, sack));
            case 7:
                int ahead = n(100);
                return due("ahead " + child + " " + ahead, x.ahead(child, ahead), m.ahead(child, ahead));
            case 8:
                int what = n(4);
                int v = n(new int[] {201, 21, 10, 61}[what < 0 || what > 3 ? 0 : what]);
                return due("ask " + what + " " + v, x.ask(what, v), m.ask(what, v));
            case 9:
                boolean is = random.nextBoolean();
                return due("roll " + is, x.roll(is), m.roll(is));
            case 20:
                int of = n(9);
                return due("childOf " + child + " " + of, x.childOf(child, of), m.childOf(child, of));
            case 21:
                int told = n(2);
                return due("sackOf " + sack + " " + told, x.sackOf(sack, told), m.sackOf(sack, told));
            default:
                return false;
        }
    }

    private boolean asked(int which) {
        int child = kid();
        int other = kid();
        int what = n(4);
        int n = n(5);
        switch (which) {
            case 22: return due("fault", x.fault(), m.fault());
            case 23:
                int seconds = n(random.nextBoolean() ? 40 : 1000);
                return due("behind " + child + " " + seconds + " " + n, x.behind(child, seconds, n),
                        m.behind(child, seconds, n));
            case 24: return due("comesIn " + child, x.comesIn(child), m.comesIn(child));
            case 25: return due("wins " + n / 2, x.wins(n / 2), m.wins(n / 2));
            case 26: return due("best " + child + " " + what, x.best(child, what), m.best(child, what));
            case 27:
                int law = n(3);
                int k = n(5);
                int i = n(4) - 1;
                return due("given " + law + " " + k + " " + i, x.given(law, k, i), m.given(law, k, i));
            case 28:
                int sack = sack();
                return due("two " + child + " " + other + " " + sack, x.two(child, other, sack),
                        m.two(child, other, sack));
            case 29: return due("pair", x.pair(), m.pair());
            case 30: return due("start " + child + " " + other, x.start(child, other), m.start(child, other));
            case 31: return due("atOnce", x.atOnce(), m.atOnce());
            case 32: return due("heats " + n + " " + what / 2, x.heats(n, what / 2), m.heats(n, what / 2));
            case 33:
                int v = n(60);
                return due("legs " + child + " " + v, x.legs(child, v), m.legs(child, v));
            case 34: return due("wall " + child, x.wall(child), m.wall(child));
            case 37:
                int in = random.nextBoolean() && child >= 0 && child < m.status(0) ? m.comesIn(child) : n(30);
                return due("worn " + child + " " + in, x.worn(child, in), m.worn(child, in));
            default: return false;
        }
    }

    private boolean left(int which) {
        int child = kid();
        switch (which) {
            case 11: return due("race", x.race(), m.race());
            case 12:
                int n = n(31);
                return due("summer " + n + " " + child, x.summer(n, child), m.summer(n, child));
            case 13:
                int v = random.nextInt();
                return due("seed " + v, x.seed(v), m.seed(v));
            case 14:
                int move = n(3);
                int y = random.nextInt();
                return due("act " + child + " " + move + " " + y, x.act(child, move, y), m.act(child, move, y));
            case 15:
                return random.nextInt(4) > 0 || due("image", x.image(), m.image());
            case 16:
                return random.nextInt(4) > 0 || due("restore", x.restore(), m.restore());
            case 38:
                int i = n(12);
                return due("trace " + i, x.trace(i), m.trace(i));
            default:
                int what = n(18);
                return due("status " + what, x.status(what), m.status(what));
        }
    }
}
