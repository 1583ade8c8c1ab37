/**
 * A loom that weaves by patterns, each told of elder ones.
 *
 * <p>Any int may be a colour, so a failure can't be a colour that is told: it stands in a field, and
 * while it stands there the number that a telling method returns means nothing.
 */
public final class PatternLoom {
    public static final int NONE = -1, OUTSIDE = -2, UNKNOWN = -3, FULL = -4;

    private static final int ZERO = 1, INDEX = 2, MISSING = 3, TIRED = 4;
    private static final int NO_FAILURE = 0;
    private static final int FAILURE_BASE = -10;

    private static final int PLAIN = 0, STRIPES = 1, TWILL = 2, MOVED = 3, TURNED = 4, OVER = 5, WHERE = 6;
    private static final int DYED = 7, FAST = 8, NAMED = 9, WORN = 10, BOTH = 11, SAFE = 12, OLD = 13;
    /** The sorts of the two patterns that no call can make. */
    private static final int HEM = 14, SEAM = 15;
    /** SEAM has it as its b, as a DYED one has its dye. */
    private static final int SEAM_DYE = 0;

    private static final int DYES = 4, DYE_COLOURS = 8, NAMES = 6;
    private static final int MOST_PATTERNS = 60, MOST_ASKED = 100, MOST_SAVED = 20;
    private static final int LAST_TURN = 3, MOST_WEAR = 50;
    private static final int MOST_SIDE = 12;

    private final int[][] dyes = new int[DYES][DYE_COLOURS];
    private final Pattern[] names = new Pattern[NAMES];
    private final Pattern[] patterns = new Pattern[MOST_PATTERNS];
    private final Cloth woven = new Cloth();
    private int patternCount;
    private int reason;
    private int failure;
    private int asked;
    private int saved;
    private int wornTold;

    public PatternLoom() {
        for (int d = 0; d < DYES; d++) {
            for (int i = 0; i < DYE_COLOURS; i++) {
                dyes[d][i] = i;
            }
        }
        names[0] = new Pattern(HEM, 0, 0, 0, null, null);
        names[1] = new Pattern(SEAM, 0, SEAM_DYE, 0, null, null);
    }

    public int dye(int d, int i, int v) {
        if (!isDye(d) || i < 0 || i >= DYE_COLOURS) {
            reason = UNKNOWN;
            return 0;
        }
        int before = dyes[d][i];
        dyes[d][i] = v;
        reason = 0;
        return before;
    }

    public int pattern(int sort, int a, int b, int c) {
        if (sort < PLAIN || sort > OLD) {
            return OUTSIDE;
        }
        if (!knowsAll(sort, a, b, c)) {
            return UNKNOWN;
        }
        if (!fits(sort, b)) {
            return OUTSIDE;
        }
        if (patternCount >= MOST_PATTERNS) {
            return FULL;
        }
        int[] fastRow = sort == FAST && isDye(b) ? dyes[b].clone() : null;
        Pattern old = sort == OLD ? named(a) : null;
        patterns[patternCount] = new Pattern(sort, a, b, c, fastRow, old);
        patternCount++;
        return patternCount - 1;
    }

    public int name(int n, int p) {
        if (!isName(n) || (p != NONE && !isPattern(p))) {
            return UNKNOWN;
        }
        int had = names[n] != null ? 1 : 0;
        names[n] = numbered(p);
        return had;
    }

    public int ask(int p, int x, int y) {
        if (!isPattern(p)) {
            reason = UNKNOWN;
            return 0;
        }
        saved = 0;
        int colour = tellPlace(numbered(p), x, y);
        reason = failure != NO_FAILURE ? FAILURE_BASE - failure : 0;
        return failure != NO_FAILURE ? 0 : colour;
    }

    public int weave(int p, int x, int y, int w, int h) {
        if (!isPattern(p)) {
            return UNKNOWN;
        }
        if (!isSide(w) || !isSide(h)) {
            return OUTSIDE;
        }
        saved = 0;
        woven.begin(w);
        Pattern asking = numbered(p);
        for (int row = 0; row < h; row++) {
            for (int column = 0; column < w; column++) {
                int colour = tellPlace(asking, x + column, y + row);
                if (failure != NO_FAILURE) {
                    return FAILURE_BASE - failure;
                }
                woven.add(colour);
            }
        }
        return w * h;
    }

    public int cloth(int i) {
        return woven.colourAt(i);
    }

    public int changes() {
        return woven.changesInRows();
    }

    public int most() {
        return woven.mostOften();
    }

    public int why() {
        return reason;
    }

    public int count(int what) {
        switch (what) {
            case 0:
                return patternCount;
            case 1:
                return woven.size;
            case 2:
                return woven.width;
            case 3:
                return asked;
            case 4:
                return wornTold;
            default:
                return OUTSIDE;
        }
    }

    private static boolean isDye(int d) {
        return d >= 0 && d < DYES;
    }

    private static boolean isName(int n) {
        return n >= 0 && n < NAMES;
    }

    private static boolean isSide(int length) {
        return length >= 1 && length <= MOST_SIDE;
    }

    private boolean isPattern(int p) {
        return p >= 0 && p < patternCount;
    }

    private Pattern numbered(int p) {
        return isPattern(p) ? patterns[p] : null;
    }

    private Pattern named(int n) {
        return isName(n) ? names[n] : null;
    }

    private boolean knowsAll(int sort, int a, int b, int c) {
        switch (sort) {
            case MOVED:
            case TURNED:
            case WORN:
            case SAFE:
                return isPattern(a);
            case OVER:
            case BOTH:
                return isPattern(a) && isPattern(b);
            case WHERE:
                return isPattern(a) && isPattern(b) && isPattern(c);
            case DYED:
            case FAST:
                return isPattern(a) && isDye(b);
            case NAMED:
            case OLD:
                return isName(a);
            default:
                return true;
        }
    }

    private static boolean fits(int sort, int b) {
        switch (sort) {
            case TURNED:
                return b >= 0 && b <= LAST_TURN;
            case WORN:
                return b >= 1 && b <= MOST_WEAR;
            case SAFE:
                return b >= 0 && b < TIRED;
            default:
                return true;
        }
    }

    private int tellPlace(Pattern p, int x, int y) {
        asked = 0;
        failure = NO_FAILURE;
        return tell(p, x, y);
    }

    private int fail(int by) {
        failure = by;
        return 0;
    }

    /**
     * Every asking goes through here, so the count of those asked also bounds the depth: at most
     * MOST_ASKED levels of two open calls each (this one and the sort's own).
     */
    private int tell(Pattern p, int x, int y) {
        if (asked >= MOST_ASKED) {
            return fail(TIRED);
        }
        asked++;
        if (p == null) {
            return fail(MISSING);
        }
        switch (p.sort) {
            case PLAIN:
                return p.a;
            case STRIPES:
                return tellStripes(p, x);
            case TWILL:
                return tellTwill(p, x, y);
            case MOVED:
                return tell(numbered(p.a), x - p.b, y - p.c);
            case TURNED:
                return tellTurned(p, x, y);
            case OVER:
                return tellOver(p, x, y);
            case WHERE:
                return tellWhere(p, x, y);
            case DYED:
            case FAST:
                return tellDyed(p, x, y);
            case NAMED:
                return tell(named(p.a), x, y) + p.b;
            case WORN:
                return tellWorn(p, x, y);
            case BOTH:
                return tellBoth(p, x, y);
            case SAFE:
                return tellSafe(p, x, y);
            case OLD:
                return tell(p.old, x, y);
            case HEM:
                return (x + y) % 2;
            case SEAM:
                return colourOf(rowOf(p), x) + y;
            default:
                return 0;
        }
    }

    private int tellStripes(Pattern p, int x) {
        if (p.c == 0) {
            return fail(ZERO);
        }
        return x / p.c % 2 == 0 ? p.a : p.b;
    }

    private int tellTwill(Pattern p, int x, int y) {
        if (p.b == 0) {
            return fail(ZERO);
        }
        return (x + p.a * y) % p.b + p.c;
    }

    private int tellTurned(Pattern p, int x, int y) {
        Pattern turned = numbered(p.a);
        switch (p.b) {
            case 0:
                return tell(turned, y, x);
            case 1:
                return tell(turned, -x, y);
            case 2:
                return tell(turned, x, -y);
            default:
                return tell(turned, x * y, x + y);
        }
    }

    private int tellOver(Pattern p, int x, int y) {
        int upper = tell(numbered(p.a), x, y);
        if (failure != NO_FAILURE || upper != 0) {
            return upper;
        }
        return tell(numbered(p.b), x, y);
    }

    private int tellWhere(Pattern p, int x, int y) {
        int choice = tell(numbered(p.a), x, y);
        if (failure != NO_FAILURE) {
            return 0;
        }
        return tell(numbered(choice > 0 ? p.b : p.c), x, y);
    }

    private int tellDyed(Pattern p, int x, int y) {
        int number = tell(numbered(p.a), x, y);
        if (failure != NO_FAILURE) {
            return 0;
        }
        return colourOf(rowOf(p), number);
    }

    /** The dye is looked up anew each time, so that it is as it is by then; only FAST keeps its own row. */
    private int[] rowOf(Pattern p) {
        if (p.sort == FAST) {
            return p.fastRow;
        }
        return isDye(p.b) ? dyes[p.b] : null;
    }

    private int colourOf(int[] row, int i) {
        if (row == null || i < 0 || i >= row.length) {
            return fail(INDEX);
        }
        return row[i];
    }

    private int tellWorn(Pattern p, int x, int y) {
        p.wear++;
        if (p.wear < p.b) {
            return tell(numbered(p.a), x, y);
        }
        p.wear = 0;
        wornTold++;
        return p.c;
    }

    private int tellBoth(Pattern p, int x, int y) {
        int one = tell(numbered(p.a), x, y);
        if (failure != NO_FAILURE) {
            return 0;
        }
        return one + p.c * tell(numbered(p.b), x, y);
    }

    private int tellSafe(Pattern p, int x, int y) {
        int colour = tell(numbered(p.a), x, y);
        if (failure == NO_FAILURE || !saves(p.b) || saved >= MOST_SAVED) {
            return colour;
        }
        saved++;
        failure = NO_FAILURE;
        return p.c;
    }

    private boolean saves(int from) {
        return failure != TIRED && (from == 0 || from == failure);
    }

    /** What a call of pattern() told; the numbers a, b, c mean what the sort makes of them. */
    private static final class Pattern {
        final int sort;
        final int a;
        final int b;
        final int c;
        /** The dye of FAST as it was, or null. */
        final int[] fastRow;
        /** The pattern of OLD, or null. */
        final Pattern old;
        /** How often a WORN one was asked since it last told c. */
        int wear;

        Pattern(int sort, int a, int b, int c, int[] fastRow, Pattern old) {
            this.sort = sort;
            this.a = a;
            this.b = b;
            this.c = c;
            this.fastRow = fastRow;
            this.old = old;
        }
    }

    /** The colours that the latest weaving came to, row by row. */
    private static final class Cloth {
        private final int[] colours = new int[MOST_SIDE * MOST_SIDE];
        int size;
        int width;

        void begin(int w) {
            size = 0;
            width = w;
        }

        void add(int colour) {
            if (size < colours.length) {
                colours[size] = colour;
                size++;
            }
        }

        int colourAt(int i) {
            return i >= 0 && i < size ? colours[i] : 0;
        }

        int changesInRows() {
            if (width == 0) {
                return 0;
            }
            int found = 0;
            for (int i = 1; i < size; i++) {
                if (i % width != 0 && colours[i] != colours[i - 1]) {
                    found++;
                }
            }
            return found;
        }

        int mostOften() {
            int best = 0;
            int bestTimes = 0;
            for (int i = 0; i < size; i++) {
                int times = timesFrom(i);
                if (times > bestTimes) {
                    best = colours[i];
                    bestTimes = times;
                }
            }
            return best;
        }

        /** Looking only ahead is enough: the first place of each colour sees all of that colour. */
        private int timesFrom(int first) {
            int times = 0;
            for (int i = first; i < size; i++) {
                if (colours[i] == colours[first]) {
                    times++;
                }
            }
            return times;
        }
    }
}
