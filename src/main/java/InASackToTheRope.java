import java.util.Arrays;

/** A sack race to a rope: who hops how, who is there when, and what comes of it. */
public final class InASackToTheRope {
    public static final int NONE = -1;

    private static final int MOST_CHILDREN = 8;
    private static final int MOST_SACKS = 8;
    private static final int SHELVES = 8;
    private static final int SORTS = 4;
    private static final int MOST_ELEMENTS = 160;
    private static final int MOST_AHEAD = 99;
    private static final int MOST_GIVEN = 5;
    private static final int MOST_JUDGED = 8;
    private static final int MOST_RACES = 30;
    private static final int LONGEST = 999;

    private static final int NOBODY = -1;
    private static final int OTHER = -2;
    private static final int NOTHING = -3;
    private static final int BELOW = -4;
    private static final int BEYOND = -5;
    private static final int WRONG = -6;
    private static final int ROOM = -7;
    /** Calls that may answer NONE tell their refusals ten lower, so that both can be told apart. */
    private static final int LOWER = -10;
    private static final int REFUSALS = 7;

    private static final int HOPPER = 0;
    private static final int EVEN = 1;
    private static final int LONG = 2;
    private static final int CALM = 3;
    private static final int RUNNING = 4;
    private static final int GREEDY = 5;
    private static final int TIPTOE = 6;
    private static final int KINDS = 7;
    private static final int[] ABOVE = {NONE, HOPPER, HOPPER, EVEN, HOPPER, LONG, RUNNING};

    private static final int WAY = 0;
    private static final int UP = 1;
    private static final int ROPE = 2;
    private static final int WIND = 3;
    private static final int TERMS = 4;
    private static final int[] LEAST_TERM = {1, 1, 0, 0};
    private static final int[] MOST_TERM = {200, 20, 9, 60};

    private final Field now = new Field();
    private final Field draft = new Field();
    private final Field kept = new Field();
    private boolean isKept;
    private final Shelf[] shelves = new Shelf[SHELVES];
    private final Racer alone = new Racer();
    private final Racer[] racers = new Racer[MOST_CHILDREN];
    private final Reader reader = new Reader();
    private final Giving giving = new Giving();
    private final Moves moves = new Moves();
    private final int[] times = new int[MOST_CHILDREN];
    private final int[] goingOn = new int[MOST_CHILDREN];
    private final int[] refusals = new int[REFUSALS + 1];
    private int lastFault = NONE;

    public InASackToTheRope() {
        for (int s = 0; s < SHELVES; s++) {
            shelves[s] = new Shelf();
        }
        for (int c = 0; c < MOST_CHILDREN; c++) {
            racers[c] = new Racer();
        }
    }

    // ---- shelves ----

    public int row(int s, int sort, int n) {
        if (!isShelf(s)) {
            return refuse(NOBODY);
        }
        if (n < 0) {
            return refuse(BELOW);
        }
        if (sort < 0 || sort >= SORTS) {
            return refuse(WRONG);
        }
        if (n > MOST_ELEMENTS) {
            return refuse(ROOM);
        }
        shelves[s].holdRow(sort, n);
        return 1;
    }

    public int set(int s, int i, long v) {
        int why = whyNoRow(s);
        if (why != 0) {
            return refuse(why);
        }
        if (!shelves[s].has(i)) {
            return refuse(BEYOND);
        }
        shelves[s].put(i, v);
        return 1;
    }

    public int copy(int p, int q, int i, int j, int n) {
        if (!isShelf(p) || !isShelf(q)) {
            return refuse(NOBODY);
        }
        Shelf from = shelves[p];
        Shelf to = shelves[q];
        if (from.hasChild() || to.hasChild() || areTwoSorts(from, to)) {
            return refuse(OTHER);
        }
        if (!from.hasRow() || !to.hasRow()) {
            return refuse(NOTHING);
        }
        if (n < 0) {
            return refuse(BELOW);
        }
        if (!from.hasPart(i, n) || !to.hasPart(j, n)) {
            return refuse(BEYOND);
        }
        System.arraycopy(from.elements, i, to.elements, j, n);
        return 1;
    }

    public long element(int s, int i) {
        return isShelf(s) ? shelves[s].at(i) : 0L;
    }

    public int show(int s, int child) {
        if (!isShelf(s) || child != NONE && !now.hasChild(child)) {
            return refuse(NOBODY);
        }
        shelves[s].holdChild(child);
        return child == NONE ? 0 : 1;
    }

    public int holds(int s) {
        return isShelf(s) ? shelves[s].held : NONE;
    }

    public int says(int s, int kind) {
        if (!isShelf(s) || !isKind(kind)) {
            return refuse(NOBODY);
        }
        Shelf shelf = shelves[s];
        if (shelf.hasRow()) {
            return refuse(OTHER);
        }
        if (!now.hasChild(shelf.held)) {
            return refuse(NOTHING);
        }
        if (!isUnder(now.children[shelf.held].kind, kind)) {
            return refuse(OTHER);
        }
        return saysAs(shelf.held, kind);
    }

    // ---- the field ----

    public int child(int kind, int a, int legs) {
        if (!isKind(kind)) {
            return refuse(NOBODY);
        }
        if (a < 0 || a > 9 || legs < 1 || legs > 9) {
            return refuse(WRONG);
        }
        if (now.childCount >= MOST_CHILDREN) {
            return refuse(ROOM);
        }
        return now.addChild(kind, a, legs);
    }

    public int sack(int length, int holes) {
        if (length < 1 || length > 9 || holes < 0 || holes > 9) {
            return refuse(WRONG);
        }
        if (now.sackCount >= MOST_SACKS) {
            return refuse(ROOM);
        }
        return now.addSack(length, holes);
    }

    public int childOf(int child, int what) {
        if (!now.hasChild(child) || what < 0 || what > 8) {
            return refuse(BEYOND);
        }
        alone.take(now, child);
        alone.begin(now);
        switch (what) {
            case 0: return alone.who.kind;
            case 1: return alone.who.a;
            case 2: return alone.who.legs;
            case 3: return alone.who.sack;
            case 4: return alone.who.ahead;
            case 5: return alone.stride;
            case 6: return alone.puff;
            case 7: return alone.risk;
            default: return alone.who.won;
        }
    }

    public int sackOf(int sack, int what) {
        if (!now.hasSack(sack)) {
            return refuse(NOBODY);
        }
        if (what < 0 || what > 1) {
            return refuse(BEYOND);
        }
        return what == 0 ? now.sacks[sack].length : now.sacks[sack].holes;
    }

    public int wears(int child, int sack) {
        if (!now.hasChild(child) || !now.hasSack(sack)) {
            return refuse(NOBODY);
        }
        int was = now.children[child].sack;
        now.children[child].sack = sack;
        return was;
    }

    public int ahead(int child, int v) {
        if (!now.hasChild(child)) {
            return refuse(NOBODY);
        }
        if (v < 0 || v > MOST_AHEAD) {
            return refuse(WRONG);
        }
        int was = now.children[child].ahead;
        now.children[child].ahead = v;
        return was;
    }

    public int ask(int what, int v) {
        if (!isTerm(what) || v < LEAST_TERM[what] || v > MOST_TERM[what]) {
            return refuse(WRONG);
        }
        int was = now.terms[what];
        now.setTerm(what, v);
        return was;
    }

    public int roll(boolean is) {
        boolean was = now.rolls;
        now.rolls = is;
        return bit(was);
    }

    public int field(int s) {
        int why = whyNoRow(s);
        if (why != 0) {
            return refuse(why);
        }
        draft.become(now);
        int items = reader.read(shelves[s], draft);
        lastFault = reader.wrong;
        if (lastFault != NONE) {
            return refuse(WRONG);
        }
        now.become(draft);
        return items;
    }

    public int fault() {
        return lastFault;
    }

    // ---- what comes of it ----

    public int behind(int child, int n, int what) {
        if (!now.hasChild(child)) {
            return refuse(NOBODY);
        }
        if (what < 0 || what > 4) {
            return refuse(BEYOND);
        }
        if (n < 0 || n > LONGEST) {
            return refuse(WRONG);
        }
        alone.take(now, child);
        alone.begin(now);
        alone.goToWay(n);
        switch (what) {
            case 0: return alone.at;
            case 1: return alone.breath;
            case 2: return alone.wobble;
            case 3: return alone.down;
            default: return alone.fell;
        }
    }

    public int comesIn(int child) {
        return now.hasChild(child) ? timeOf(child) : refuse(NOBODY);
    }

    public int wins(int what) {
        if (what < 0 || what > 1 || now.childCount == 0) {
            return refuse(BEYOND);
        }
        timeAll();
        int winner = winner();
        return what == 0 ? winner : leadOf(winner);
    }

    public int best(int child, int what) {
        if (!now.hasChild(child)) {
            return refuse(NOBODY);
        }
        if (what < 0 || what > 3 || what == 2 && now.sackCount == 0) {
            return refuse(BEYOND);
        }
        switch (what) {
            case 0: return bestKind(child);
            case 1: return bit(timeAs(child, CALM) < timeAs(child, GREEDY));
            case 2: return bestSack(child);
            default: return bit(timeRolling(child, true) < timeRolling(child, false));
        }
    }

    public int given(int law, int k, int i) {
        if (law < 0 || law > 2 || k < 1 || k > MOST_GIVEN || k > now.childCount || k > now.sackCount) {
            return refuse(WRONG);
        }
        if (i != NONE && (i < 0 || i >= k)) {
            return refuse(BEYOND);
        }
        for (int c = 0; c < k; c++) {
            for (int s = 0; s < now.sackCount; s++) {
                giving.tell(c, s, timeIn(c, s));
            }
        }
        giving.find(law, k, now.sackCount);
        return i == NONE ? giving.least : giving.best[i];
    }

    public int two(int child, int other, int sack) {
        if (!now.hasChild(child) || !now.hasChild(other) || !now.hasSack(sack)) {
            return refuse(NOBODY);
        }
        return child == other ? refuse(WRONG) : timeOfTwo(child, other, sack);
    }

    public int pair() {
        if (now.childCount < 2 || now.sackCount == 0) {
            return refuse(BEYOND);
        }
        int first = NONE;
        int least = LONGEST + 1;
        for (int c = 0; c < now.childCount; c++) {
            for (int other = c + 1; other < now.childCount; other++) {
                int time = timeOfTwo(c, other, now.children[c].sack);
                if (time < least) {
                    least = time;
                    first = 100 * c + other;
                }
            }
        }
        return first;
    }

    public int start(int child, int other) {
        if (!now.hasChild(child) || !now.hasChild(other)) {
            return refuse(LOWER + NOBODY);
        }
        return leastAhead(child, timeOf(other));
    }

    public int atOnce() {
        if (now.childCount == 0) {
            return 0;
        }
        timeAll();
        int time = times[winner()];
        int sum = 0;
        for (int c = 0; c < now.childCount; c++) {
            int ahead = leastAhead(c, time);
            if (ahead == NONE) {
                return NONE;
            }
            sum += ahead;
        }
        return sum;
    }

    public int heats(int k, int what) {
        if (what < 0 || what > 1 || now.childCount == 0) {
            return refuse(BEYOND);
        }
        if (k < 2 || k > 4) {
            return refuse(WRONG);
        }
        timeAll();
        for (int c = 0; c < now.childCount; c++) {
            goingOn[c] = c;
        }
        int left = now.childCount;
        int heats = 0;
        for (int round = 0; round < MOST_CHILDREN && left > 1; round++) {
            left = heatsOfRound(left, k);
            heats += left;
        }
        return what == 0 ? goingOn[0] : heats;
    }

    public int legs(int child, int v) {
        if (!now.hasChild(child)) {
            return refuse(LOWER + NOBODY);
        }
        if (v < 0) {
            return refuse(LOWER + WRONG);
        }
        for (int legs = 1; legs <= 9; legs++) {
            alone.take(now, child);
            alone.who.legs = legs;
            if (alone.timeToRope(now) <= v) {
                return legs;
            }
        }
        return NONE;
    }

    public int wall(int child) {
        if (!now.hasChild(child)) {
            return refuse(LOWER + NOBODY);
        }
        alone.take(now, child);
        alone.begin(now);
        alone.goToWay(LONGEST);
        return alone.firstFall;
    }

    public int judge(int s, int n) {
        int why = whyNoRow(s);
        if (why != 0) {
            return refuse(LOWER + why);
        }
        if (n < 0) {
            return refuse(LOWER + BELOW);
        }
        if (n > shelves[s].size) {
            return refuse(LOWER + BEYOND);
        }
        if (n > MOST_JUDGED) {
            return refuse(LOWER + WRONG);
        }
        return wrongIn(shelves[s], n);
    }

    public int meant(int s) {
        int why = whyNoRow(s);
        if (why != 0) {
            return refuse(why);
        }
        if (shelves[s].size < now.childCount) {
            return refuse(BEYOND);
        }
        int bits = 0;
        for (int kind = 0; kind < KINDS; kind++) {
            if (allAsTold(shelves[s], kind)) {
                bits |= 1 << kind;
            }
        }
        return bits;
    }

    public int worn(int child, int seconds) {
        if (!now.hasChild(child)) {
            return refuse(NOBODY);
        }
        int bits = 0;
        for (int s = 0; s < now.sackCount; s++) {
            if (timeIn(child, s) == seconds) {
                bits |= 1 << s;
            }
        }
        return bits;
    }

    // ---- in truth ----

    public int race() {
        return now.childCount == 0 ? refuse(LOWER + BEYOND) : raceInTruth();
    }

    public int summer(int n, int child) {
        if (!now.hasChild(child)) {
            return refuse(NOBODY);
        }
        if (n < 1 || n > MOST_RACES) {
            return refuse(WRONG);
        }
        int won = 0;
        for (int race = 0; race < n; race++) {
            if (raceInTruth() == child) {
                won++;
            }
        }
        return won;
    }

    public int seed(int v) {
        int was = now.seed;
        now.seed = v;
        return was;
    }

    // ---- moves, the image, the status ----

    public int act(int child, int move, int x) {
        moves.forget();
        if (!now.hasChild(child) || move < 0 || move >= Moves.MOVES) {
            return 0;
        }
        return moves.run(now.children[child], child, move, x);
    }

    public int trace(int i) {
        return moves.noted(i);
    }

    public int image() {
        kept.become(now);
        isKept = true;
        return kept.childCount;
    }

    public int restore() {
        if (!isKept) {
            return refuse(WRONG);
        }
        now.become(kept);
        for (int s = 0; s < SHELVES; s++) {
            if (shelves[s].hasChild() && !now.hasChild(shelves[s].held)) {
                shelves[s].holdChild(NONE);
            }
        }
        return now.childCount;
    }

    public int status(int what) {
        if (what > 10 && what <= 10 + REFUSALS) {
            return refusals[what - 10];
        }
        switch (what) {
            case 0: return now.childCount;
            case 1: return now.sackCount;
            case 2: return now.terms[WAY];
            case 3: return now.terms[UP];
            case 4: return now.terms[ROPE];
            case 5: return now.terms[WIND];
            case 6: return bit(now.rolls);
            case 7: return now.races;
            case 8: return now.seed;
            case 9: return moves.ran;
            default: return NONE;
        }
    }

    // ---- what the calls share ----

    private int refuse(int number) {
        int which = number <= LOWER ? LOWER - number : -number;
        if (which > 0 && which <= REFUSALS) {
            refusals[which]++;
        }
        return number;
    }

    private static boolean isShelf(int s) {
        return s >= 0 && s < SHELVES;
    }

    private static boolean isKind(int kind) {
        return kind >= 0 && kind < KINDS;
    }

    private static boolean isTerm(int what) {
        return what >= 0 && what < TERMS;
    }

    private static boolean isUnder(int kind, int wanted) {
        int above = kind;
        for (int step = 0; step < KINDS && isKind(above); step++) {
            if (above == wanted) {
                return true;
            }
            above = ABOVE[above];
        }
        return false;
    }

    private static int bit(boolean is) {
        return is ? 1 : 0;
    }

    private static boolean areTwoSorts(Shelf one, Shelf another) {
        return one.hasRow() && another.hasRow() && one.held != another.held;
    }

    /** The refusal of a SHELF that must hold a ROW, or 0. */
    private int whyNoRow(int s) {
        if (!isShelf(s)) {
            return NOBODY;
        }
        if (shelves[s].hasChild()) {
            return OTHER;
        }
        return shelves[s].hasRow() ? 0 : NOTHING;
    }

    private int saysAs(int child, int kind) {
        alone.take(now, child);
        alone.begin(now);
        switch (kind) {
            case HOPPER: return alone.who.legs;
            case EVEN:
            case CALM: return alone.puff;
            case LONG:
            case GREEDY: return alone.stride;
            default: return alone.risk;
        }
    }

    private int timeOf(int child) {
        alone.take(now, child);
        return alone.timeToRope(now);
    }

    private int timeAs(int child, int kind) {
        alone.take(now, child);
        alone.who.kind = kind;
        return alone.timeToRope(now);
    }

    private int timeIn(int child, int sack) {
        alone.take(now, child);
        alone.who.sack = sack;
        return alone.timeToRope(now);
    }

    private int timeRolling(int child, boolean rolls) {
        alone.take(now, child);
        alone.rolls = rolls;
        return alone.timeToRope(now);
    }

    private int timeOfTwo(int child, int other, int sack) {
        int legs = now.children[child].legs;
        int others = now.children[other].legs;
        alone.take(now, child);
        alone.who.legs = Math.min(legs, others);
        alone.who.sack = sack;
        alone.moreSlack = Math.abs(legs - others);
        return alone.timeToRope(now);
    }

    private void timeAll() {
        for (int c = 0; c < now.childCount; c++) {
            times[c] = timeOf(c);
        }
    }

    /** By the latest timeAll(). */
    private int winner() {
        int first = 0;
        for (int c = 1; c < now.childCount; c++) {
            if (times[c] < times[first]) {
                first = c;
            }
        }
        return first;
    }

    /** By the latest timeAll(). */
    private int leadOf(int winner) {
        int next = LONGEST + 1;
        for (int c = 0; c < now.childCount; c++) {
            if (c != winner) {
                next = Math.min(next, times[c]);
            }
        }
        return next > LONGEST ? 0 : next - times[winner];
    }

    private int bestKind(int child) {
        int first = NONE;
        int least = LONGEST + 1;
        for (int kind = 0; kind < KINDS; kind++) {
            int time = timeAs(child, kind);
            if (time < least) {
                least = time;
                first = kind;
            }
        }
        return first;
    }

    private int bestSack(int child) {
        int first = NONE;
        int least = LONGEST + 1;
        for (int s = 0; s < now.sackCount; s++) {
            int time = timeIn(child, s);
            if (time < least) {
                least = time;
                first = s;
            }
        }
        return first;
    }

    private int leastAhead(int child, int latest) {
        alone.take(now, child);
        return alone.leastAheadFor(now, latest);
    }

    /** Puts the winners of one round's heats to the front of those who go on: how many they are. */
    private int heatsOfRound(int left, int k) {
        int heats = 0;
        int first = 0;
        for (int i = 0; i < left; i++) {
            int child = goingOn[i];
            if (i == heats * k) {
                heats++;
                first = child;
            } else if (times[child] < times[first]) {
                first = child;
            }
            goingOn[heats - 1] = first;
        }
        return heats;
    }

    private int wrongIn(Shelf told, int n) {
        int were = 0;
        int before = 0;
        for (int i = 0; i < n; i++) {
            int child = told.asInt(i);
            if (!now.hasChild(child) || (were >> child & 1) == 1) {
                return i;
            }
            int time = timeOf(child);
            if (time < before) {
                return i;
            }
            were |= 1 << child;
            before = time;
        }
        return NONE;
    }

    private boolean allAsTold(Shelf told, int kind) {
        for (int c = 0; c < now.childCount; c++) {
            if (timeAs(c, kind) != told.asInt(c)) {
                return false;
            }
        }
        return true;
    }

    private int raceInTruth() {
        for (int c = 0; c < now.childCount; c++) {
            racers[c].take(now, c);
            racers[c].begin(now);
        }
        int hopping = now.childCount;
        for (int second = 0; second < LONGEST && hopping > 0; second++) {
            hopping = secondInTruth();
        }
        now.races++;
        int first = firstInTruth();
        if (first != NONE) {
            now.children[first].won++;
        }
        return first;
    }

    /** How many hopped or lay in it: none, once all are at the rope. */
    private int secondInTruth() {
        int hopping = 0;
        for (int c = 0; c < now.childCount; c++) {
            Racer racer = racers[c];
            if (racer.at < racer.way) {
                hopping++;
                if (racer.down > 0) {
                    racer.lie();
                } else {
                    racer.hop(now.draw(100) < racer.riskNow());
                }
            }
        }
        return hopping;
    }

    private int firstInTruth() {
        int first = NONE;
        int least = LONGEST;
        for (int c = 0; c < now.childCount; c++) {
            int time = racers[c].timeNow();
            if (time < least) {
                least = time;
                first = c;
            }
        }
        return first;
    }

    /** A child as it is told, or, in a Racer, as it would be. */
    private static final class Child {
        int kind;
        int a;
        int legs;
        int sack;
        int ahead;
        int won;

        void become(Child other) {
            kind = other.kind;
            a = other.a;
            legs = other.legs;
            sack = other.sack;
            ahead = other.ahead;
            won = other.won;
        }
    }

    private static final class Sack {
        int length;
        int holes;
    }

    /** All that an image keeps; one becomes another in place, so that no call makes objects. */
    private static final class Field {
        final Child[] children = new Child[MOST_CHILDREN];
        int childCount;
        final Sack[] sacks = new Sack[MOST_SACKS];
        int sackCount;
        final int[] terms = {40, 5, 3, 20};
        boolean rolls;
        int races;
        int seed = 1;

        Field() {
            for (int c = 0; c < MOST_CHILDREN; c++) {
                children[c] = new Child();
            }
            for (int s = 0; s < MOST_SACKS; s++) {
                sacks[s] = new Sack();
            }
        }

        boolean hasChild(int child) {
            return child >= 0 && child < childCount;
        }

        boolean hasSack(int sack) {
            return sack >= 0 && sack < sackCount;
        }

        int addChild(int kind, int a, int legs) {
            if (childCount >= MOST_CHILDREN) {
                return NONE;
            }
            int number = childCount;
            Child made = children[number];
            made.kind = kind;
            made.a = a;
            made.legs = legs;
            made.sack = hasSack(number) ? number : 0;
            made.ahead = 0;
            made.won = 0;
            childCount++;
            return number;
        }

        int addSack(int length, int holes) {
            if (sackCount >= MOST_SACKS) {
                return NONE;
            }
            sacks[sackCount].length = length;
            sacks[sackCount].holes = holes;
            sackCount++;
            return sackCount - 1;
        }

        void setTerm(int what, int v) {
            if (isTerm(what)) {
                terms[what] = v;
            }
        }

        int draw(int below) {
            seed = seed * 1103515245 + 12345;
            return below > 0 ? (seed >>> 16) % below : 0;
        }

        void become(Field other) {
            childCount = other.childCount;
            for (int c = 0; c < MOST_CHILDREN; c++) {
                children[c].become(other.children[c]);
            }
            sackCount = other.sackCount;
            for (int s = 0; s < MOST_SACKS; s++) {
                sacks[s].length = other.sacks[s].length;
                sacks[s].holes = other.sacks[s].holes;
            }
            System.arraycopy(other.terms, 0, terms, 0, TERMS);
            rolls = other.rolls;
            races = other.races;
            seed = other.seed;
        }
    }

    private static final class Shelf {
        private static final int ROW = 100;

        int held = NONE;
        int size;
        final long[] elements = new long[MOST_ELEMENTS];

        boolean hasRow() {
            return held >= ROW;
        }

        boolean hasChild() {
            return held >= 0 && held < ROW;
        }

        boolean has(int i) {
            return i >= 0 && i < size;
        }

        boolean hasPart(int i, int n) {
            return i >= 0 && n >= 0 && i <= size - n;
        }

        void holdRow(int sort, int n) {
            held = ROW + sort;
            size = n;
            Arrays.fill(elements, 0L);
        }

        /** A child's number, or NONE for NOTHING. */
        void holdChild(int child) {
            held = child;
            size = 0;
        }

        void put(int i, long v) {
            if (has(i)) {
                elements[i] = lowest(v);
            }
        }

        private long lowest(long v) {
            switch (held - ROW) {
                case 0: return (byte) v;
                case 1: return (short) v;
                case 2: return (int) v;
                default: return v;
            }
        }

        long at(int i) {
            return has(i) ? elements[i] : 0L;
        }

        int asInt(int i) {
            return has(i) ? (int) elements[i] : 0;
        }
    }

    /** One who hops: a copy of a child, which may be changed to ask what would be, and where he is. */
    private static final class Racer {
        private static final int MOST_BREATH = 60;
        private static final int FALLS = 100;
        private static final int OUT_OF_BREATH = 20;

        final Child who = new Child();
        int moreSlack;
        boolean rolls;
        int way;
        int up;
        int rope;
        int stride;
        int puff;
        int risk;
        int at;
        int breath;
        int wobble;
        int down;
        int fell;
        int firstFall = NONE;
        int seconds;

        void take(Field field, int child) {
            if (field.hasChild(child)) {
                who.become(field.children[child]);
            }
            moreSlack = 0;
            rolls = field.rolls;
        }

        void begin(Field field) {
            boolean inSack = field.hasSack(who.sack);
            int slack = inSack ? Math.abs(field.sacks[who.sack].length - who.legs) + moreSlack : 0;
            int holes = inSack ? field.sacks[who.sack].holes : 0;
            stride = strideOf(who, slack);
            puff = puffOf(who.kind);
            risk = 5 * slack + 3 * holes + stride;
            if (isUnder(who.kind, RUNNING)) {
                risk /= 2;
            }
            way = field.terms[WAY];
            up = field.terms[UP];
            rope = Math.max(0, field.terms[ROPE] - who.legs);
            breath = field.terms[WIND];
            at = who.ahead;
            wobble = 0;
            down = 0;
            fell = 0;
            firstFall = NONE;
            seconds = 0;
        }

        private static int strideOf(Child who, int slack) {
            switch (who.kind) {
                case EVEN: return Math.max(1, who.legs - 1);
                case LONG: return who.legs + 2;
                case CALM: return (who.legs + 1) / 2;
                case RUNNING: return Math.max(1, who.legs + 1 - slack);
                case GREEDY: return who.legs + who.a;
                case TIPTOE: return Math.max(1, who.legs - slack);
                default: return who.legs;
            }
        }

        private static int puffOf(int kind) {
            switch (kind) {
                case EVEN: return 1;
                case LONG: return 4;
                case CALM: return 0;
                case RUNNING: return 3;
                case GREEDY: return 5;
                default: return 2;
            }
        }

        int riskNow() {
            return breath < puff ? risk + OUT_OF_BREATH : risk;
        }

        void lie() {
            down--;
            breath = Math.min(MOST_BREATH, breath + 2);
            if (rolls) {
                at++;
            }
            seconds++;
        }

        void hop(boolean falls) {
            breath = Math.min(MOST_BREATH, Math.max(0, breath - puff) + 1);
            if (falls) {
                if (fell == 0) {
                    firstFall = at;
                }
                fell++;
                down = up;
            } else {
                at += stride;
            }
            seconds++;
        }

        private void goASecond() {
            if (down > 0) {
                lie();
                return;
            }
            wobble += riskNow();
            boolean falls = wobble >= FALLS;
            if (falls) {
                wobble -= FALLS;
            }
            hop(falls);
        }

        void goToWay(int atMost) {
            for (int second = 0; second < atMost && at < way; second++) {
                goASecond();
            }
        }

        int timeNow() {
            return at < way ? LONGEST : Math.min(LONGEST, seconds + rope);
        }

        int timeToRope(Field field) {
            begin(field);
            goToWay(LONGEST);
            return timeNow();
        }

        /**
         * Where he is changes nothing of how he hops: so it is enough to see how far he comes in
         * the time, and to put him ahead by what is wanting.
         */
        int leastAheadFor(Field field, int latest) {
            if (latest >= LONGEST) {
                return 0;
            }
            who.ahead = 0;
            begin(field);
            int hopping = latest - rope;
            if (hopping < 0) {
                return NONE;
            }
            for (int second = 0; second < hopping; second++) {
                goASecond();
            }
            int wanting = Math.max(0, way - at);
            return wanting > MOST_AHEAD ? NONE : wanting;
        }
    }

    /** Reads a field's text over a draft, so that a FAULT leaves what there is as it is. */
    private static final class Reader {
        private static final int CHILD = 0;
        private static final int SACK = 1;
        private static final int WEARS = 2;
        private static final int AHEAD = 3;
        private static final int FIRST_TERM = 4;
        private static final int WORDS = FIRST_TERM + TERMS;
        private static final int DIGITS = 3;

        private final int[] numbers = new int[3];
        private int place;
        int wrong = NONE;

        /** How many ITEMS; with a FAULT (then told by wrong) the draft is of no use. */
        int read(Shelf text, Field draft) {
            place = 0;
            wrong = NONE;
            for (int items = 1; items <= MOST_ELEMENTS; items++) {
                readItem(text, draft);
                if (wrong != NONE || place >= text.size) {
                    return items;
                }
                if (text.asInt(place) != ';') {
                    wrong = place;
                    return items;
                }
                place++;
            }
            return 0;
        }

        private void readItem(Shelf text, Field draft) {
            int word = readWord(text);
            if (word == NONE) {
                return;
            }
            if (!hasRoom(draft, word)) {
                wrong = place;
                return;
            }
            place += wordOf(word).length();
            int count = numbersOf(word);
            for (int i = 0; i < count && wrong == NONE; i++) {
                readNumber(text, i, leastOf(word, i), mostOf(draft, word, i));
            }
            if (wrong == NONE) {
                tell(draft, word);
            }
        }

        /** The word that begins at the place; the place stays, since a word without room is wrong there. */
        private int readWord(Shelf text) {
            int longest = 0;
            for (int word = 0; word < WORDS; word++) {
                int alike = lettersAlike(text, wordOf(word));
                if (alike == wordOf(word).length()) {
                    return word;
                }
                longest = Math.max(longest, alike);
            }
            wrong = place + longest;
            return NONE;
        }

        private int lettersAlike(Shelf text, String word) {
            int alike = 0;
            while (alike < word.length() && text.asInt(place + alike) == word.charAt(alike)) {
                alike++;
            }
            return alike;
        }

        private void readNumber(Shelf text, int i, int least, int most) {
            if (text.asInt(place) != ' ') {
                wrong = place;
                return;
            }
            place++;
            int first = place;
            int value = 0;
            while (place < first + DIGITS && isDigit(text.asInt(place))) {
                value = value * 10 + text.asInt(place) - '0';
                place++;
            }
            if (place == first || value < least || value > most) {
                wrong = first;
            } else if (i >= 0 && i < numbers.length) {
                numbers[i] = value;
            }
        }

        private void tell(Field draft, int word) {
            switch (word) {
                case CHILD:
                    draft.addChild(numbers[0], numbers[1], numbers[2]);
                    break;
                case SACK:
                    draft.addSack(numbers[0], numbers[1]);
                    break;
                case WEARS:
                    if (draft.hasChild(numbers[0])) {
                        draft.children[numbers[0]].sack = numbers[1];
                    }
                    break;
                case AHEAD:
                    if (draft.hasChild(numbers[0])) {
                        draft.children[numbers[0]].ahead = numbers[1];
                    }
                    break;
                default:
                    draft.setTerm(word - FIRST_TERM, numbers[0]);
                    break;
            }
        }

        private static boolean isDigit(int letter) {
            return letter >= '0' && letter <= '9';
        }

        private static boolean hasRoom(Field draft, int word) {
            switch (word) {
                case CHILD: return draft.childCount < MOST_CHILDREN;
                case SACK: return draft.sackCount < MOST_SACKS;
                default: return true;
            }
        }

        private static String wordOf(int word) {
            switch (word) {
                case CHILD: return "child";
                case SACK: return "sack";
                case WEARS: return "wears";
                case AHEAD: return "ahead";
                case FIRST_TERM + WAY: return "way";
                case FIRST_TERM + UP: return "up";
                case FIRST_TERM + ROPE: return "rope";
                default: return "wind";
            }
        }

        private static int numbersOf(int word) {
            switch (word) {
                case CHILD: return 3;
                case SACK:
                case WEARS:
                case AHEAD: return 2;
                default: return 1;
            }
        }

        private static int leastOf(int word, int i) {
            switch (word) {
                case CHILD: return i == 2 ? 1 : 0;
                case SACK: return i == 0 ? 1 : 0;
                case WEARS:
                case AHEAD: return 0;
                default: return isTerm(word - FIRST_TERM) ? LEAST_TERM[word - FIRST_TERM] : 0;
            }
        }

        private static int mostOf(Field draft, int word, int i) {
            switch (word) {
                case CHILD: return i == 0 ? KINDS - 1 : 9;
                case SACK: return 9;
                case WEARS: return i == 0 ? draft.childCount - 1 : draft.sackCount - 1;
                case AHEAD: return i == 0 ? draft.childCount - 1 : MOST_AHEAD;
                default: return isTerm(word - FIRST_TERM) ? MOST_TERM[word - FIRST_TERM] : 0;
            }
        }
    }

    /** How sacks are given to the first children, each another one. */
    private static final class Giving {
        private final int[] times = new int[MOST_GIVEN * MOST_SACKS];
        private final int[] tried = new int[MOST_GIVEN];
        final int[] best = new int[MOST_GIVEN];
        int least;
        private int law;
        private int children;
        private int sacks;

        void tell(int child, int sack, int time) {
            if (child >= 0 && child < MOST_GIVEN && sack >= 0 && sack < MOST_SACKS) {
                times[child * MOST_SACKS + sack] = time;
            }
        }

        void find(int byLaw, int childCount, int sackCount) {
            law = byLaw;
            children = Math.min(childCount, MOST_GIVEN);
            sacks = Math.min(sackCount, MOST_SACKS);
            least = Integer.MAX_VALUE;
            giveFrom(this, 0, 0, 0, 0, LONGEST);
        }

        /**
         * Gives to the children from this one on. What is to be least never becomes less by one
         * more child, so a way that is no better than the best by now is left at once.
         */
        private static void giveFrom(Giving on, int child, int gone, int sum, int greatest, int smallest) {
            int so = on.law == 0 ? sum : on.law == 1 ? greatest : greatest - smallest;
            if (so >= on.least) {
                return;
            }
            if (child >= on.children || child >= MOST_GIVEN) {
                on.least = so;
                System.arraycopy(on.tried, 0, on.best, 0, MOST_GIVEN);
                return;
            }
            for (int s = 0; s < on.sacks; s++) {
                if ((gone >> s & 1) == 0) {
                    int time = on.times[child * MOST_SACKS + s];
                    on.tried[child] = s;
                    giveFrom(on, child + 1, gone | 1 << s, sum + time,
                            Math.max(greatest, time), Math.min(smallest, time));
                }
            }
        }
    }

    /** The bodies of the moves, by tables: which kind has which, and what each does. */
    private static final class Moves {
        private static final int HOPS = 0;
        private static final int FALLS = 1;
        private static final int RISES = 2;
        static final int MOVES = 3;
        private static final int KEPT = 20;
        /** No move goes through more bodies than seven at once. */
        private static final int DEEPEST = 12;
        private static final int[] BODIES = {
            10, 20, 0, 0, 51, 0, 70,
            11, 0, 30, 40, 0, 0, 71,
            12, 0, 0, 0, 50, 60, 0,
        };

        private final int[] bodies = new int[KEPT];
        int ran;
        private int kind;
        private int m;
        private int k;

        int run(Child child, int number, int move, int x) {
            kind = child.kind;
            m = number;
            k = child.a;
            return runFrom(this, move, kind, x, 0);
        }

        void forget() {
            ran = 0;
        }

        int noted(int i) {
            return i >= 0 && i < ran && i < KEPT ? bodies[i] : NONE;
        }

        private void note(int body) {
            if (ran < KEPT) {
                bodies[ran] = body;
            }
            ran++;
        }

        /** The kind, this or the next above it, that has a body for the move: HOPPER has them all. */
        private static int holderOf(int move, int kind) {
            int holder = kind;
            for (int step = 0; step < KINDS && isKind(holder) && BODIES[move * KINDS + holder] == 0; step++) {
                holder = ABOVE[holder];
            }
            return holder;
        }

        private static int runFrom(Moves on, int move, int kind, int x, int depth) {
            if (depth > DEEPEST || move < 0 || move >= MOVES || !isKind(kind)) {
                return 0;
            }
            int holder = holderOf(move, kind);
            if (!isKind(holder)) {
                return 0;
            }
            int body = BODIES[move * KINDS + holder];
            int above = ABOVE[holder];
            int deeper = depth + 1;
            on.note(body);
            switch (body) {
                case 10: return x + on.m;
                case 11: return runFrom(on, HOPS, on.kind, x, deeper) * 2;
                case 12: return runFrom(on, FALLS, on.kind, x, deeper)
                        ^ runFrom(on, HOPS, on.kind, x - on.k, deeper);
                case 20: return runFrom(on, HOPS, above, x, deeper) + on.k;
                case 30: return runFrom(on, FALLS, above, x, deeper) * 3;
                case 40: return runFrom(on, FALLS, above, x + 1, deeper);
                case 50: return -runFrom(on, RISES, above, x, deeper);
                case 51: return runFrom(on, HOPS, above, x, deeper) - on.m;
                case 60: return runFrom(on, RISES, above, x, deeper) ^ 5;
                case 70: return runFrom(on, HOPS, above, x, deeper) * 2;
                case 71: return runFrom(on, FALLS, above, x - on.k, deeper);
                default: return 0;
            }
        }
    }
}
