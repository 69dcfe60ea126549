import java.util.function.LongSupplier;
import java.util.function.Supplier;
import java.util.function.ToIntFunction;

/** What the tests share: due answers, refusals that change nothing, and short ways to make things. */
final class Check {
    static int passed;
    static int failed;
    private static int wrong;

    private Check() {
    }

    static void test(String name, Runnable body) {
        wrong = 0;
        try {
            body.run();
        } catch (RuntimeException | Error e) {
            fail("threw " + e);
            e.printStackTrace(System.out);
        }
        if (wrong == 0) {
            passed++;
            System.out.println("ok " + name);
        } else {
            failed++;
            System.out.println("FAILED " + name);
        }
    }

    static void fail(String what) {
        wrong++;
        System.out.println("  " + what);
    }

    static void due(String call, long got, long want) {
        if (got != want) {
            fail(call + " answered " + got + ", due is " + want);
        }
    }

    static void holds(String what, boolean is) {
        if (!is) {
            fail("does not hold: " + what);
        }
    }

    /**
     * The call answers the number, counts one refusal of it more, and changes nothing else: of two
     * objects made alike one is called so. Each object is used for far fewer than 512 calls, so what
     * the rows hold and what the image holds is looked at in further ones.
     */
    static void refused(Supplier<InASackToTheRope> make, String call,
            ToIntFunction<InASackToTheRope> run, int number) {
        InASackToTheRope left = make.get();
        InASackToTheRope called = make.get();
        due(call, run.applyAsInt(called), number);
        int which = number <= -10 ? -number - 10 : -number;
        for (int i = 1; i <= 7; i++) {
            due("refusals -" + i + " behind " + call, called.status(10 + i),
                    left.status(10 + i) + (i == which ? 1 : 0));
        }
        holds("nothing changes by " + call, state(left).equals(state(called)));
        for (int s = 0; s < 8; s++) {
            InASackToTheRope other = make.get();
            run.applyAsInt(other);
            holds("SHELF " + s + " stays by " + call, rowOf(make.get(), s).equals(rowOf(other, s)));
        }
        InASackToTheRope back = make.get();
        InASackToTheRope calledBack = make.get();
        run.applyAsInt(calledBack);
        due("restore behind " + call, calledBack.restore(), back.restore());
        holds("the image stays by " + call, state(back).equals(state(calledBack)));
    }

    /** All elements of the SHELF's ROW, and how many there are (which set() tells, so it comes last). */
    private static String rowOf(InASackToTheRope x, int s) {
        StringBuilder seen = new StringBuilder();
        for (int i = 0; i <= 160; i++) {
            seen.append(x.element(s, i)).append(' ');
        }
        int size = 0;
        int beyond = 161;
        while (size < beyond) {
            int mid = (size + beyond) / 2;
            if (x.set(s, mid, 0) == 1) {
                size = mid + 1;
            } else {
                beyond = mid;
            }
        }
        return seen.append(size).toString();
    }

    /** The call answers so and counts no refusal. */
    static void free(InASackToTheRope x, String call, LongSupplier run, long want) {
        int[] counts = refusals(x);
        due(call, run.getAsLong(), want);
        int[] after = refusals(x);
        for (int i = 1; i <= 7; i++) {
            due("refusals -" + i + " behind " + call, after[i], counts[i]);
        }
    }

    static int[] refusals(InASackToTheRope x) {
        int[] counts = new int[8];
        for (int i = 1; i <= 7; i++) {
            counts[i] = x.status(10 + i);
        }
        return counts;
    }

    /** What can be seen without a refusal (of rows the first four elements), but for the refusals. */
    static String state(InASackToTheRope x) {
        StringBuilder seen = new StringBuilder();
        for (int what = 0; what <= 9; what++) {
            seen.append(x.status(what)).append(' ');
        }
        for (int c = 0; c < x.status(0); c++) {
            for (int what = 0; what <= 8; what++) {
                seen.append(x.childOf(c, what)).append(' ');
            }
        }
        for (int s = 0; s < x.status(1); s++) {
            seen.append(x.sackOf(s, 0)).append(' ').append(x.sackOf(s, 1)).append(' ');
        }
        for (int s = 0; s < 8; s++) {
            seen.append(x.holds(s)).append(' ');
            for (int i = 0; i < 4; i++) {
                seen.append(x.element(s, i)).append(' ');
            }
        }
        seen.append(x.fault());
        for (int i = 0; i < 20; i++) {
            seen.append(' ').append(x.trace(i));
        }
        return seen.toString();
    }

    /** A ROW of bytes that holds the text. */
    static void text(InASackToTheRope x, int s, String text) {
        row(x, s, 0, letters(text));
    }

    static long[] letters(String text) {
        long[] letters = new long[text.length()];
        for (int i = 0; i < letters.length; i++) {
            letters[i] = text.charAt(i);
        }
        return letters;
    }

    static void row(InASackToTheRope x, int s, int sort, long... elements) {
        due("row(" + s + ", " + sort + ", " + elements.length + ")", x.row(s, sort, elements.length), 1);
        for (int i = 0; i < elements.length; i++) {
            due("set(" + s + ", " + i + ", " + elements[i] + ")", x.set(s, i, elements[i]), 1);
        }
    }

    /** A new object with a field told by a text. */
    static InASackToTheRope told(String text) {
        InASackToTheRope x = new InASackToTheRope();
        tell(x, text);
        return x;
    }

    static void tell(InASackToTheRope x, String text) {
        text(x, 7, text);
        due("field of " + text, x.field(7), text.split(";").length);
        x.show(7, InASackToTheRope.NONE);
    }

    static void fault(String before, String text, int want) {
        InASackToTheRope x = before.isEmpty() ? new InASackToTheRope() : told(before);
        text(x, 0, text);
        int refusals = x.status(16);
        due("field of " + text, x.field(0), -6);
        due("fault of " + text, x.fault(), want);
        due("refusals -6 behind " + text, x.status(16), refusals + 1);
    }
}
