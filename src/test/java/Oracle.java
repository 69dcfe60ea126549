/** The document's race once more, in the plainest way: what the class answers is held against it. */
final class Oracle {
    final int[] kinds;
    final int[] as;
    final int[] legs;
    final int[] sacks;
    final int[] aheads;
    final int[] lengths;
    final int[] holes;
    final int way;
    final int up;
    final int rope;
    final int wind;
    final boolean rolls;
    int seed;

    /** As the object tells itself. */
    Oracle(InASackToTheRope x) {
        int children = x.status(0);
        kinds = new int[children];
        as = new int[children];
        legs = new int[children];
        sacks = new int[children];
        aheads = new int[children];
        for (int c = 0; c < children; c++) {
            kinds[c] = x.childOf(c, 0);
            as[c] = x.childOf(c, 1);
            legs[c] = x.childOf(c, 2);
            sacks[c] = x.childOf(c, 3);
            aheads[c] = x.childOf(c, 4);
        }
        lengths = new int[x.status(1)];
        holes = new int[lengths.length];
        for (int s = 0; s < lengths.length; s++) {
            lengths[s] = x.sackOf(s, 0);
            holes[s] = x.sackOf(s, 1);
        }
        way = x.status(2);
        up = x.status(3);
        rope = x.status(4);
        wind = x.status(5);
        rolls = x.status(6) == 1;
        seed = x.status(8);
    }

    /** As a model has it. */
    Oracle(Model.State state) {
        int children = state.kids.size();
        kinds = new int[children];
        as = new int[children];
        legs = new int[children];
        sacks = new int[children];
        aheads = new int[children];
        for (int c = 0; c < children; c++) {
            kinds[c] = state.kids.get(c).kind;
            as[c] = state.kids.get(c).a;
            legs[c] = state.kids.get(c).legs;
            sacks[c] = state.kids.get(c).sack;
            aheads[c] = state.kids.get(c).ahead;
        }
        lengths = new int[state.sacks.size()];
        holes = new int[lengths.length];
        for (int s = 0; s < lengths.length; s++) {
            lengths[s] = state.sacks.get(s)[0];
            holes[s] = state.sacks.get(s)[1];
        }
        way = state.terms[0];
        up = state.terms[1];
        rope = state.terms[2];
        wind = state.terms[3];
        rolls = state.rolls;
        seed = state.seed;
    }

    int children() {
        return kinds.length;
    }

    /** One who hops by the words of the document. */
    final class One {
        int kind;
        int a;
        int legs;
        int sack;
        int ahead;
        int differ;
        boolean rolling = rolls;
        int at;
        int breath;
        int wobble;
        int down;
        int fell;
        int wall = -1;
        int seconds;

        One(int child) {
            kind = kinds[child];
            a = as[child];
            legs = Oracle.this.legs[child];
            sack = sacks[child];
            ahead = aheads[child];
        }

        int slack() {
            if (lengths.length == 0) {
                return 0;
            }
            int slack = lengths[sack] - legs;
            return (slack < 0 ? -slack : slack) + differ;
        }

        int stride() {
            int stride = new int[] {legs, legs - 1, legs + 2, legs / 2 + legs % 2, legs + 1 - slack(), legs + a,
                legs - slack()}[kind];
            return stride < 1 ? 1 : stride;
        }

        int puff() {
            return new int[] {2, 1, 4, 0, 3, 5, 2}[kind];
        }

        int risk() {
            int risk = 5 * slack() + stride() + (lengths.length == 0 ? 0 : 3 * holes[sack]);
            return kind == 4 || kind == 6 ? risk / 2 : risk;
        }

        void start() {
            at = ahead;
            breath = wind;
            wobble = 0;
            down = 0;
            fell = 0;
            wall = -1;
            seconds = 0;
        }

        /** A second of who isn't at the WAY: in truth by draws, or as it is told. */
        void second(boolean inTruth) {
            if (at >= way) {
                return;
            }
            seconds++;
            if (down > 0) {
                down--;
                breath += 2;
                at += rolling ? 1 : 0;
            } else {
                int risk = risk() + (breath < puff() ? 20 : 0);
                breath = (breath < puff() ? 0 : breath - puff()) + 1;
                boolean falls;
                if (inTruth) {
                    seed = seed * 1103515245 + 12345;
                    falls = (seed >>> 16) % 100 < risk;
                } else {
                    wobble += risk;
                    falls = wobble >= 100;
                    wobble -= falls ? 100 : 0;
                }
                if (falls) {
                    down = up;
                    wall = fell == 0 ? at : wall;
                    fell++;
                } else {
                    at += stride();
                }
            }
            breath = breath > 60 ? 60 : breath;
        }

        One behind(int n) {
            start();
            for (int t = 0; t < n; t++) {
                second(false);
            }
            return this;
        }

        int in() {
            behind(999);
            return arrived();
        }

        int arrived() {
            if (at < way) {
                return 999;
            }
            int time = seconds + (rope > legs ? rope - legs : 0);
            return time > 999 ? 999 : time;
        }
    }

    int in(int child) {
        return new One(child).in();
    }

    int inAs(int child, int kind) {
        One one = new One(child);
        one.kind = kind;
        return one.in();
    }

    int inSack(int child, int sack) {
        One one = new One(child);
        one.sack = sack;
        return one.in();
    }

    int inRolling(int child, boolean rolling) {
        One one = new One(child);
        one.rolling = rolling;
        return one.in();
    }

    int inAhead(int child, int ahead) {
        One one = new One(child);
        one.ahead = ahead;
        return one.in();
    }

    int inLegs(int child, int legs) {
        One one = new One(child);
        one.legs = legs;
        return one.in();
    }

    int two(int child, int other, int sack) {
        One one = new One(child);
        one.legs = Math.min(legs[child], legs[other]);
        one.differ = Math.max(legs[child], legs[other]) - one.legs;
        one.sack = sack;
        return one.in();
    }

    int start(int child, int other) {
        int by = in(other);
        for (int ahead = 0; ahead <= 99; ahead++) {
            if (inAhead(child, ahead) <= by) {
                return ahead;
            }
        }
        return -1;
    }

    /** The child who is IN first, of several the first. */
    int winner() {
        int first = children() - 1;
        for (int c = first; c >= 0; c--) {
            first = in(c) <= in(first) ? c : first;
        }
        return first;
    }

    int winnerOf(int... among) {
        int first = among[0];
        for (int c : among) {
            if (in(c) < in(first)) {
                first = c;
            }
        }
        return first;
    }

    /** {what is least, the SACKS}, by counting through all rows of numbers. */
    int[] given(int law, int k) {
        int[] best = null;
        int n = lengths.length;
        int rows = 1;
        int[][] ins = new int[k][n];
        for (int c = 0; c < k; c++) {
            rows *= n;
            for (int s = 0; s < n; s++) {
                ins[c][s] = inSack(c, s);
            }
        }
        for (int row = 0; row < rows; row++) {
            int[] tried = new int[k + 1];
            int rest = row;
            for (int i = k; i >= 1; i--) {
                tried[i] = rest % n;
                rest /= n;
            }
            if (isEachAnother(tried)) {
                int sum = 0;
                int most = 0;
                int least = 999;
                for (int c = 0; c < k; c++) {
                    int in = ins[c][tried[c + 1]];
                    sum += in;
                    most = Math.max(most, in);
                    least = Math.min(least, in);
                }
                tried[0] = law == 0 ? sum : law == 1 ? most : most - least;
                if (best == null || tried[0] < best[0]) {
                    best = tried;
                }
            }
        }
        return best;
    }

    private static boolean isEachAnother(int[] tried) {
        for (int i = 1; i < tried.length; i++) {
            for (int j = 1; j < i; j++) {
                if (tried[i] == tried[j]) {
                    return false;
                }
            }
        }
        return true;
    }

    /** {who, how many}, each round's heats in a new row. */
    int[] heats(int k) {
        int[] left = new int[children()];
        for (int c = 0; c < left.length; c++) {
            left[c] = c;
        }
        int heats = 0;
        while (left.length > 1) {
            int[] on = new int[(left.length + k - 1) / k];
            for (int h = 0; h < on.length; h++) {
                on[h] = winnerOf(java.util.Arrays.copyOfRange(left, h * k, Math.min(left.length, h * k + k)));
                heats++;
            }
            left = on;
        }
        return new int[] {left[0], heats};
    }

    int race() {
        One[] ones = new One[children()];
        for (int c = 0; c < ones.length; c++) {
            ones[c] = new One(c);
            ones[c].start();
        }
        for (int t = 0; t < 999; t++) {
            for (One one : ones) {
                one.second(true);
            }
        }
        int first = -1;
        for (int c = 0; c < ones.length; c++) {
            if (ones[c].arrived() < (first < 0 ? 999 : ones[first].arrived())) {
                first = c;
            }
        }
        return first;
    }
}
