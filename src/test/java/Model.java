import java.util.ArrayList;
import java.util.List;

/**
 * The whole document once more, in the plainest way and with all of Java: what the class answers to any
 * calls is held against it. Races are the Oracle's, texts the TextOracleTest's.
 */
final class Model {
    private static final int[] ABOVE = {-1, 0, 0, 1, 0, 2, 4};

    static final class Kid {
        int kind;
        int a;
        int legs;
        int sack;
        int ahead;
        int won;
    }

    /** What an image has. */
    static final class State {
        List<Kid> kids = new ArrayList<>();
        List<int[]> sacks = new ArrayList<>();
        int[] terms = {40, 5, 3, 20};
        boolean rolls;
        int races;
        int seed = 1;

        State copy() {
            State other = new State();
            for (Kid kid : kids) {
                Kid made = new Kid();
                made.kind = kid.kind;
                made.a = kid.a;
                made.legs = kid.legs;
                made.sack = kid.sack;
                made.ahead = kid.ahead;
                made.won = kid.won;
                other.kids.add(made);
            }
            other.sacks.addAll(sacks);
            other.terms = terms.clone();
            other.rolls = rolls;
            other.races = races;
            other.seed = seed;
            return other;
        }

        int child(int kind, int a, int legs) {
            Kid kid = new Kid();
            kid.kind = kind;
            kid.a = a;
            kid.legs = legs;
            kid.sack = kids.size() < sacks.size() ? kids.size() : 0;
            kids.add(kid);
            return kids.size() - 1;
        }
    }

    private static final class Row {
        int sort;
        long[] elements;
    }

    private State state = new State();
    private State image;
    private final Row[] rows = new Row[8];
    private final Integer[] shown = new Integer[8];
    private final int[] refusals = new int[8];
    private List<Integer> trace = new ArrayList<>();
    private int fault = -1;
    private int why;

    /** Refuses, if it is so; asked in the document's order, and behind one that is so no more is asked. */
    private boolean no(int number, boolean is) {
        if (is) {
            why = number;
            refusals[number <= -10 ? -number - 10 : -number]++;
        }
        return is;
    }

    private boolean isShelf(int s) {
        return 0 <= s && s <= 7;
    }

    private boolean isKid(int c) {
        return 0 <= c && c < state.kids.size();
    }

    private boolean isSack(int s) {
        return 0 <= s && s < state.sacks.size();
    }

    private Oracle oracle() {
        return new Oracle(state);
    }

    private boolean noRow(int lower, int s) {
        return no(-1 - lower, !isShelf(s)) || no(-2 - lower, shown[s] != null) || no(-3 - lower, rows[s] == null);
    }

    int row(int s, int sort, int n) {
        if (no(-1, !isShelf(s)) || no(-4, n < 0) || no(-6, sort < 0 || sort > 3) || no(-7, n > 160)) {
            return why;
        }
        shown[s] = null;
        rows[s] = new Row();
        rows[s].sort = sort;
        rows[s].elements = new long[n];
        return 1;
    }

    int set(int s, int i, long v) {
        if (noRow(0, s) || no(-5, i < 0 || i >= rows[s].elements.length)) {
            return why;
        }
        int bits = 64 - (8 << rows[s].sort);
        rows[s].elements[i] = v << bits >> bits;
        return 1;
    }

    int copy(int p, int q, int i, int j, int n) {
        if (no(-1, !isShelf(p) || !isShelf(q))
                || no(-2, shown[p] != null || shown[q] != null
                        || rows[p] != null && rows[q] != null && rows[p].sort != rows[q].sort)
                || no(-3, rows[p] == null || rows[q] == null) || no(-4, n < 0)
                || no(-5, i < 0 || j < 0 || (long) i + n > rows[p].elements.length
                        || (long) j + n > rows[q].elements.length)) {
            return why;
        }
        long[] were = rows[p].elements.clone();
        for (int t = 0; t < n; t++) {
            rows[q].elements[j + t] = were[i + t];
        }
        return 1;
    }

    long element(int s, int i) {
        return isShelf(s) && rows[s] != null && i >= 0 && i < rows[s].elements.length ? rows[s].elements[i] : 0;
    }

    int show(int s, int child) {
        if (no(-1, !isShelf(s) || child != -1 && !isKid(child))) {
            return why;
        }
        rows[s] = null;
        shown[s] = child == -1 ? null : (Integer) child;
        return child == -1 ? 0 : 1;
    }

    int holds(int s) {
        return !isShelf(s) ? -1 : rows[s] != null ? 100 + rows[s].sort : shown[s] != null ? shown[s] : -1;
    }

    int says(int s, int kind) {
        if (no(-1, !isShelf(s) || kind < 0 || kind > 6)
                || no(-2, rows[s] != null || shown[s] != null && !isUnder(state.kids.get(shown[s]).kind, kind))
                || no(-3, shown[s] == null)) {
            return why;
        }
        Oracle.One one = oracle().new One(shown[s]);
        return new int[] {one.legs, one.puff(), one.stride(), one.puff(), one.risk(), one.stride(), one.risk()}[kind];
    }

    private static boolean isUnder(int kind, int wanted) {
        return kind == wanted || kind > 0 && isUnder(ABOVE[kind], wanted);
    }

    int child(int kind, int a, int legs) {
        if (no(-1, kind < 0 || kind > 6) || no(-6, a < 0 || a > 9 || legs < 1 || legs > 9)
                || no(-7, state.kids.size() == 8)) {
            return why;
        }
        return state.child(kind, a, legs);
    }

    int sack(int length, int holes) {
        if (no(-6, length < 1 || length > 9 || holes < 0 || holes > 9) || no(-7, state.sacks.size() == 8)) {
            return why;
        }
        state.sacks.add(new int[] {length, holes});
        return state.sacks.size() - 1;
    }

    int childOf(int child, int what) {
        if (no(-5, !isKid(child) || what < 0 || what > 8)) {
            return why;
        }
        Kid kid = state.kids.get(child);
        Oracle.One one = oracle().new One(child);
        return new int[] {kid.kind, kid.a, kid.legs, kid.sack, kid.ahead, one.stride(), one.puff(), one.risk(),
            kid.won}[what];
    }

    int sackOf(int sack, int what) {
        return no(-1, !isSack(sack)) || no(-5, what < 0 || what > 1) ? why : state.sacks.get(sack)[what];
    }

    int wears(int child, int sack) {
        if (no(-1, !isKid(child) || !isSack(sack))) {
            return why;
        }
        int was = state.kids.get(child).sack;
        state.kids.get(child).sack = sack;
        return was;
    }

    int ahead(int child, int v) {
        if (no(-1, !isKid(child)) || no(-6, v < 0 || v > 99)) {
            return why;
        }
        int was = state.kids.get(child).ahead;
        state.kids.get(child).ahead = v;
        return was;
    }

    int ask(int what, int v) {
        int[] least = {1, 1, 0, 0};
        int[] most = {200, 20, 9, 60};
        if (no(-6, what < 0 || what > 3 || v < least[what] || v > most[what])) {
            return why;
        }
        int was = state.terms[what];
        state.terms[what] = v;
        return was;
    }

    int roll(boolean is) {
        int was = state.rolls ? 1 : 0;
        state.rolls = is;
        return was;
    }

    int field(int s) {
        if (noRow(0, s)) {
            return why;
        }
        StringBuilder text = new StringBuilder();
        for (long element : rows[s].elements) {
            int letter = (int) element;
            text.append(letter < 0 || letter > 255 ? '\uffff' : (char) letter);
        }
        fault = TextOracleTest.faultOf(text.toString(), state.kids.size(), state.sacks.size());
        if (no(-6, fault >= 0)) {
            return why;
        }
        String[] items = text.toString().split(";");
        for (String item : items) {
            tell(item.split(" "));
        }
        return items.length;
    }

    private void tell(String[] item) {
        int[] n = new int[4];
        for (int i = 1; i < item.length; i++) {
            n[i] = Integer.parseInt(item[i]);
        }
        switch (item[0]) {
            case "child": state.child(n[1], n[2], n[3]); break;
            case "sack": state.sacks.add(new int[] {n[1], n[2]}); break;
            case "wears": state.kids.get(n[1]).sack = n[2]; break;
            case "ahead": state.kids.get(n[1]).ahead = n[2]; break;
            case "way": state.terms[0] = n[1]; break;
            case "up": state.terms[1] = n[1]; break;
            case "rope": state.terms[2] = n[1]; break;
            default: state.terms[3] = n[1]; break;
        }
    }

    int fault() {
        return fault;
    }

    int behind(int child, int n, int what) {
        if (no(-1, !isKid(child)) || no(-5, what < 0 || what > 4) || no(-6, n < 0 || n > 999)) {
            return why;
        }
        Oracle.One one = oracle().new One(child).behind(n);
        return new int[] {one.at, one.breath, one.wobble, one.down, one.fell}[what];
    }

    int comesIn(int child) {
        return no(-1, !isKid(child)) ? why : oracle().in(child);
    }

    int wins(int what) {
        if (no(-5, what < 0 || what > 1 || state.kids.isEmpty())) {
            return why;
        }
        Oracle o = oracle();
        int first = o.winner();
        int next = 9999;
        for (int c = 0; c < o.children(); c++) {
            next = c == first ? next : Math.min(next, o.in(c));
        }
        return what == 0 ? first : next == 9999 ? 0 : next - o.in(first);
    }

    int best(int child, int what) {
        if (no(-1, !isKid(child)) || no(-5, what < 0 || what > 3 || what == 2 && state.sacks.isEmpty())) {
            return why;
        }
        Oracle o = oracle();
        int first = 0;
        switch (what) {
            case 0:
                for (int kind = 6; kind >= 0; kind--) {
                    first = o.inAs(child, kind) <= o.inAs(child, first) ? kind : first;
                }
                return first;
            case 1:
                return o.inAs(child, 3) < o.inAs(child, 5) ? 1 : 0;
            case 2:
                for (int s = state.sacks.size() - 1; s >= 0; s--) {
                    first = o.inSack(child, s) <= o.inSack(child, first) ? s : first;
                }
                return first;
            default:
                return o.inRolling(child, true) < o.inRolling(child, false) ? 1 : 0;
        }
    }

    int given(int law, int k, int i) {
        if (no(-6, law < 0 || law > 2 || k < 1 || k > 5 || k > state.kids.size() || k > state.sacks.size())
                || no(-5, i < -1 || i >= k)) {
            return why;
        }
        return oracle().given(law, k)[i + 1];
    }

    int two(int child, int other, int sack) {
        if (no(-1, !isKid(child) || !isKid(other) || !isSack(sack)) || no(-6, child == other)) {
            return why;
        }
        return oracle().two(child, other, sack);
    }

    int pair() {
        if (no(-5, state.kids.size() < 2 || state.sacks.isEmpty())) {
            return why;
        }
        int[] best = {9999, 0};
        for (int c = 0; c < state.kids.size(); c++) {
            for (int d = c + 1; d < state.kids.size(); d++) {
                int in = oracle().two(c, d, state.kids.get(c).sack);
                best = in < best[0] ? new int[] {in, 100 * c + d} : best;
            }
        }
        return best[1];
    }

    int start(int child, int other) {
        return no(-11, !isKid(child) || !isKid(other)) ? why : oracle().start(child, other);
    }

    int atOnce() {
        Oracle o = oracle();
        int sum = 0;
        for (int c = 0; c < o.children(); c++) {
            int start = o.start(c, o.winner());
            if (start < 0) {
                return -1;
            }
            sum += start;
        }
        return sum;
    }

    int heats(int k, int what) {
        if (no(-5, what < 0 || what > 1 || state.kids.isEmpty()) || no(-6, k < 2 || k > 4)) {
            return why;
        }
        return oracle().heats(k)[what];
    }

    int legs(int child, int v) {
        if (no(-11, !isKid(child)) || no(-16, v < 0)) {
            return why;
        }
        for (int legs = 1; legs <= 9; legs++) {
            if (oracle().inLegs(child, legs) <= v) {
                return legs;
            }
        }
        return -1;
    }

    int wall(int child) {
        return no(-11, !isKid(child)) ? why : oracle().new One(child).behind(999).wall;
    }

    int judge(int s, int n) {
        if (noRow(10, s) || no(-14, n < 0) || no(-15, n > rows[s].elements.length) || no(-16, n > 8)) {
            return why;
        }
        List<Integer> were = new ArrayList<>();
        for (int i = 0; i < n; i++) {
            int child = (int) rows[s].elements[i];
            if (!isKid(child) || were.contains(child)
                    || i > 0 && oracle().in(child) < oracle().in(were.get(i - 1))) {
                return i;
            }
            were.add(child);
        }
        return -1;
    }

    int meant(int s) {
        if (noRow(0, s) || no(-5, rows[s].elements.length < state.kids.size())) {
            return why;
        }
        int bits = 127;
        for (int c = 0; c < state.kids.size(); c++) {
            for (int kind = 0; kind < 7; kind++) {
                bits &= oracle().inAs(c, kind) == (int) rows[s].elements[c] ? 127 : ~(1 << kind);
            }
        }
        return bits;
    }

    int worn(int child, int seconds) {
        if (no(-1, !isKid(child))) {
            return why;
        }
        int bits = 0;
        for (int s = 0; s < state.sacks.size(); s++) {
            bits += oracle().inSack(child, s) == seconds ? 1 << s : 0;
        }
        return bits;
    }

    private int oneRace() {
        Oracle o = oracle();
        int first = o.race();
        state.seed = o.seed;
        state.races++;
        if (first >= 0) {
            state.kids.get(first).won++;
        }
        return first;
    }

    int race() {
        return no(-15, state.kids.isEmpty()) ? why : oneRace();
    }

    int summer(int n, int child) {
        if (no(-1, !isKid(child)) || no(-6, n < 1 || n > 30)) {
            return why;
        }
        int won = 0;
        for (int i = 0; i < n; i++) {
            won += oneRace() == child ? 1 : 0;
        }
        return won;
    }

    int seed(int v) {
        int was = state.seed;
        state.seed = v;
        return was;
    }

    int act(int child, int move, int x) {
        trace = new ArrayList<>();
        if (!isKid(child) || move < 0 || move > 2) {
            return 0;
        }
        Hopper hopper = new Hopper[] {new Hopper(), new Even(), new Long(), new Calm(), new Running(), new Greedy(),
            new Tiptoe()}[state.kids.get(child).kind];
        hopper.m = child;
        hopper.k = state.kids.get(child).a;
        hopper.ran = trace;
        return move == 0 ? hopper.hops(x) : move == 1 ? hopper.falls(x) : hopper.rises(x);
    }

    int trace(int i) {
        return i >= 0 && i < Math.min(20, trace.size()) ? trace.get(i) : -1;
    }

    int image() {
        image = state.copy();
        return image.kids.size();
    }

    int restore() {
        if (no(-6, image == null)) {
            return why;
        }
        state = image.copy();
        for (int s = 0; s < 8; s++) {
            shown[s] = shown[s] != null && isKid(shown[s]) ? shown[s] : null;
        }
        return state.kids.size();
    }

    int status(int what) {
        if (what >= 11 && what <= 17) {
            return refusals[what - 10];
        }
        int[] known = {state.kids.size(), state.sacks.size(), state.terms[0], state.terms[1], state.terms[2],
            state.terms[3], state.rolls ? 1 : 0, state.races, state.seed, trace.size()};
        return what >= 0 && what <= 9 ? known[what] : -1;
    }

    // ---- the moves, by Java's own super ----

    private static class Hopper {
        int m;
        int k;
        List<Integer> ran;

        int hops(int x) {
            ran.add(10);
            return x + m;
        }

        int falls(int x) {
            ran.add(11);
            return hops(x) * 2;
        }

        int rises(int x) {
            ran.add(12);
            return falls(x) ^ hops(x - k);
        }
    }

    private static class Even extends Hopper {
        @Override
        int hops(int x) {
            ran.add(20);
            return super.hops(x) + k;
        }
    }

    private static class Long extends Hopper {
        @Override
        int falls(int x) {
            ran.add(30);
            return super.falls(x) * 3;
        }
    }

    private static final class Calm extends Even {
        @Override
        int falls(int x) {
            ran.add(40);
            return super.falls(x + 1);
        }
    }

    private static class Running extends Hopper {
        @Override
        int rises(int x) {
            ran.add(50);
            return -super.rises(x);
        }

        @Override
        int hops(int x) {
            ran.add(51);
            return super.hops(x) - m;
        }
    }

    private static final class Greedy extends Long {
        @Override
        int rises(int x) {
            ran.add(60);
            return super.rises(x) ^ 5;
        }
    }

    private static final class Tiptoe extends Running {
        @Override
        int hops(int x) {
            ran.add(70);
            return super.hops(x) * 2;
        }

        @Override
        int falls(int x) {
            ran.add(71);
            return super.falls(x - k);
        }
    }
}
