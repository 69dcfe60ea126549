import java.util.function.Supplier;
import java.util.function.ToIntFunction;

/** What the tests of boundary cases share: bounds that are taken or left, and an object well used. */
final class Edges {
    static final int MIN = Integer.MIN_VALUE;
    static final int MAX = Integer.MAX_VALUE;
    static final String EIGHT_CHILDREN = "child 0 0 1;child 0 0 1;child 0 0 1;child 0 0 1;"
            + "child 0 0 1;child 0 0 1;child 0 0 1;child 0 0 1";
    static final String EIGHT_SACKS = "sack 1 0;sack 1 0;sack 1 0;sack 1 0;"
            + "sack 1 0;sack 1 0;sack 1 0;sack 1 0";

    private Edges() {
    }

    /** A call with one number that has a least and a most. */
    interface Give {
        int to(InASackToTheRope x, int v);
    }

    /** The least and the most are taken and told behind the call; what is next to them is refused. */
    static void bounds(Supplier<InASackToTheRope> make, String what, int least, int most,
            Give give, ToIntFunction<InASackToTheRope> told) {
        for (int v : new int[] {least, most}) {
            InASackToTheRope x = make.get();
            taken(x, what + " " + v, y -> give.to(y, v));
            Check.due(what, told.applyAsInt(x), v);
        }
        left(make, what, least, most, give, -6);
    }

    /** What is next to the least and the most, and what is furthest from them, answers the number. */
    static void left(Supplier<InASackToTheRope> make, String what, int least, int most, Give give, int number) {
        for (int v : new int[] {least - 1, most + 1, MIN, MAX}) {
            Check.refused(make, what + " " + v, y -> give.to(y, v), number);
        }
    }

    /** The call answers no refusal, and counts none. */
    static void taken(InASackToTheRope x, String what, ToIntFunction<InASackToTheRope> call) {
        int[] counts = Check.refusals(x);
        int answer = call.applyAsInt(x);
        Check.holds(what + " is taken, not " + answer, answer >= 0);
        Check.holds(what + " counts no refusal", java.util.Arrays.equals(counts, Check.refusals(x)));
    }

    static InASackToTheRope made(String text) {
        return text.isEmpty() ? new InASackToTheRope() : Check.told(text);
    }

    /** A NUMBER in a text: the least and the most stand; what is next to them is a FAULT at its first digit. */
    static void number(String before, String head, String tail, int least, int most,
            ToIntFunction<InASackToTheRope> told) {
        for (int v : new int[] {least, most}) {
            InASackToTheRope x = made(before);
            String text = head + v + tail;
            Check.text(x, 0, text);
            Check.due("field of " + text, x.field(0), text.split(";").length);
            Check.due("fault of " + text, x.fault(), -1);
            Check.due("told by " + text, told.applyAsInt(x), v);
        }
        if (least > 0) {
            Check.fault(before, head + (least - 1) + tail, head.length());
        }
        Check.fault(before, head + (most + 1) + tail, head.length());
        Check.fault(before, head + 999 + tail, head.length());
    }

    /**
     * Three children, two SACKS, ROWS of all SORTS in SHELVES 0 to 3 (3, 2, 4 and 2 elements), child 1
     * (RUNNING) in 4, child 2 (CALM) in 5, a text with a FAULT in 6, NOTHING in 7; a race, an image with
     * two children, a TRACE, a FAULT and some refusals.
     */
    static InASackToTheRope lived() {
        InASackToTheRope x = new InASackToTheRope();
        x.sack(6, 1);
        x.sack(9, 2);
        x.child(0, 3, 5);
        x.child(4, 1, 7);
        x.wears(1, 0);
        x.ask(0, 50);
        x.ask(1, 6);
        x.ask(2, 4);
        x.ask(3, 30);
        x.image();
        x.child(3, 2, 6);
        x.ahead(0, 4);
        x.roll(true);
        x.seed(77);
        x.race();
        x.act(1, 2, 9);
        Check.row(x, 0, 0, 1, 2, 3);
        Check.row(x, 1, 1, 7, 400);
        Check.row(x, 2, 2, 9, 8, 7, 6);
        Check.row(x, 3, 3, 1L << 40, -1);
        x.show(4, 1);
        x.show(5, 2);
        Check.text(x, 6, "up 0");
        x.field(6);
        x.comesIn(9);
        return x;
    }

    /** Eight children and eight SACKS, each child with LEGS one more than its number, in a SACK of its own. */
    static InASackToTheRope full() {
        InASackToTheRope x = new InASackToTheRope();
        for (int i = 0; i < 8; i++) {
            x.sack(i + 1, i);
            x.child(i % 7, i, i + 1);
        }
        return x;
    }
}
