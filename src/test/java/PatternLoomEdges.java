/**
 * The sentences of the document that name a boundary case, in its order and, where 'part' tells them, in its
 * words: each with what is due on both sides of the boundary. The answers due are written as plain numbers
 * (-1 NONE, -2 OUTSIDE, -3 UNKNOWN, -4 FULL), so that a wrong constant of the class shows, too.
 */
public final class PatternLoomEdges extends LoomTest {
    private static final int NONE = -1, OUTSIDE = -2, UNKNOWN = -3, FULL = -4;
    private static final int[] FAR = {MIN, MIN + 1, -2, -1, 0, 1, 2, MAX - 1, MAX};

    public static void main(String[] args) {
        terms();
        sorts();
        refusals();
        promises();
        end("all edges hold");
    }

    private static void terms() {
        constants();
        theLastOfItsCalls();
        placesPassOn();
        failuresAreNumbered();
        failuresPassOn();
        sixtyPatterns();
        sumsWrap();
        differencesWrap();
        productsWrap();
        quotients();
        remainders();
        dyesAtFirst();
        dyeEdges();
        nameEdges();
        namesAtFirst();
        hem();
        seam();
    }

    private static void sorts() {
        plain();
        stripes();
        twill();
        moved();
        turned();
        over();
        where();
        dyed();
        fast();
        named();
        worn();
        wornWhenItFails();
        both();
        safe();
        safeTwentyTimes();
        safeCountsOnlyWhatItSaves();
        old();
        tiredAtTheHundredAndFirst();
        tiredByAllThatCount();
        tiredIsOfOnePlace();
        tiredLeavesTheLastUnasked();
    }

    private static void refusals() {
        refusedDye();
        refusedPattern();
        refusedName();
        refusedAsk();
        refusedWeave();
        refusedCount();
        firstThatFits();
    }

    private static void promises() {
        newObject();
        dyeAnswers();
        patternOutsideB();
        patternUnknown();
        patternNotLookedAt();
        nameAnswers();
        askAnswers();
        weaveSides();
        weavePlaces();
        weaveFailsFirst();
        weaveFailsLater();
        clothAnswers();
        changesAnswers();
        mostAnswers();
        whyAnswers();
        countAnswers();
    }

    // ---- patterns that the tests build on

    /** Tells x, whatever it is, but 0 for MIN. */
    private static int xOf(PatternLoom l) {
        return l.pattern(TWILL, 0, MIN, 0);
    }

    private static int yOf(PatternLoom l) {
        return l.pattern(TURNED, xOf(l), 0, 0);
    }

    private static int plain(PatternLoom l, int colour) {
        return l.pattern(PLAIN, colour, 0, 0);
    }

    private static int failing(PatternLoom l, int why) {
        switch (why) {
            case ZERO:
                return l.pattern(STRIPES, 5, 6, 0);
            case INDEX:
                return l.pattern(DYED, plain(l, 8), 3, 0);
            case MISSING:
                return l.pattern(OLD, 5, 0, 0);
            default:
                int loop = l.pattern(NAMED, 4, 0, 0);
                l.name(4, loop);
                return loop;
        }
    }

    /** Tells 0, and asks so many patterns in all, itself among them. */
    private static int asking(PatternLoom l, int patterns) {
        if (patterns == 1) {
            return plain(l, 0);
        }
        if (patterns % 2 == 0) {
            return l.pattern(MOVED, asking(l, patterns - 1), 0, 0);
        }
        int half = asking(l, patterns / 2);
        return l.pattern(BOTH, half, half, 1);
    }

    /** Asks the last one when so many others, the new one among them, have been asked. */
    private static int behind(PatternLoom l, int others, int last) {
        return l.pattern(BOTH, asking(l, others - 1), last, 1);
    }

    /** All that calls tell which change nothing themselves. */
    private static String state(PatternLoom l) {
        StringBuilder all = new StringBuilder();
        for (int what = 0; what <= 4; what++) {
            all.append(l.count(what)).append(' ');
        }
        all.append(l.why()).append(' ').append(l.changes()).append(' ').append(l.most());
        for (int i = -1; i <= 144; i++) {
            all.append(' ').append(l.cloth(i));
        }
        return all.toString();
    }

    // ---- Terms

    private static void constants() {
        part = "NONE = -1, OUTSIDE = -2, UNKNOWN = -3, FULL = -4";
        due("NONE", PatternLoom.NONE, NONE);
        due("OUTSIDE", PatternLoom.OUTSIDE, OUTSIDE);
        due("UNKNOWN", PatternLoom.UNKNOWN, UNKNOWN);
        due("FULL", PatternLoom.FULL, FULL);
    }

    private static void theLastOfItsCalls() {
        part = "An object is used for at most 512 calls";
        PatternLoom l = new PatternLoom();
        int worn = l.pattern(WORN, plain(l, 7), 1, 9);
        for (int call = 3; call <= 510; call++) {
            due("weave()", l.weave(worn, 0, 0, 12, 12), 144);
        }
        due("the 511th call, count(4)", l.count(4), 508 * 144);
        due("the 512th call, pattern()", l.pattern(MOVED, worn, 0, 0), 2);
    }

    private static void placesPassOn() {
        part = "A PATTERN tells a COLOUR of each PLACE x, y (and what it asks tells of the same, but as told)";
        PatternLoom l = new PatternLoom();
        // tells 5 at 1, 2, but 4 at 2, 1, 3 at 1, 1 and 6 at 2, 2
        int place = l.pattern(TWILL, 2, 500, 0);
        int none = plain(l, 0);
        int one = plain(l, 1);
        l.name(3, place);
        int[][] all = {
            {OVER, place, one, 0}, {OVER, none, place, 0}, {WHERE, one, place, none}, {WHERE, none, one, place},
            {DYED, place, 3, 0}, {FAST, place, 3, 0}, {NAMED, 3, 0, 0}, {WORN, place, 50, 0},
            {BOTH, place, none, 1}, {BOTH, none, place, 1}, {SAFE, place, 0, 0}, {OLD, 3, 0, 0},
        };
        for (int[] s : all) {
            dueAsk(l, l.pattern(s[0], s[1], s[2], s[3]), 1, 2, 5);
        }
        dueAsk(l, l.pattern(WHERE, l.pattern(TWILL, 2, 500, -4), one, none), 1, 2, 1);
        dueAsk(l, l.pattern(WHERE, l.pattern(TWILL, 2, 500, -5), one, none), 1, 2, 0);
    }

    private static void failuresAreNumbered() {
        part = "1 ZERO, 2 INDEX, 3 MISSING, 4 TIRED";
        for (int failure = 1; failure <= 4; failure++) {
            PatternLoom l = new PatternLoom();
            int p = failing(l, -10 - failure);
            dueFails(l, p, 0, 0, -10 - failure);
            due("weave()", l.weave(p, 0, 0, 2, 2), -10 - failure);
        }
    }

    private static void failuresPassOn() {
        part = "what one that it asks FAILS by it FAILS by, too (but as told)";
        for (int why : new int[] {ZERO, INDEX, MISSING, TIRED}) {
            PatternLoom l = new PatternLoom();
            int f = failing(l, why);
            int none = plain(l, 0);
            int one = plain(l, 1);
            l.name(3, f);
            int notBy = why == ZERO ? 2 : 1;
            int[][] all = {
                {MOVED, f, 0, 0}, {TURNED, f, 0, 0}, {TURNED, f, 1, 0}, {TURNED, f, 2, 0}, {TURNED, f, 3, 0},
                {OVER, f, one, 0}, {OVER, none, f, 0},
                {WHERE, f, one, one}, {WHERE, one, f, one}, {WHERE, none, one, f},
                {DYED, f, 0, 0}, {FAST, f, 0, 0}, {NAMED, 3, 1, 0}, {WORN, f, 50, 1},
                {BOTH, f, one, 1}, {BOTH, f, one, 0}, {BOTH, one, f, 1}, {BOTH, one, f, 0},
                {SAFE, f, notBy, 1}, {OLD, 3, 0, 0},
            };
            for (int[] s : all) {
                int p = l.pattern(s[0], s[1], s[2], s[3]);
                dueFails(l, p, 3, 4, why);
                due("weave() of " + p, l.weave(p, 3, 4, 1, 1), why);
            }
            dueAsk(l, l.pattern(OVER, one, f, 0), 3, 4, 1);
            dueAsk(l, l.pattern(WHERE, one, one, f), 3, 4, 1);
            dueAsk(l, l.pattern(WHERE, none, f, one), 3, 4, 1);
            dueAsk(l, l.pattern(WORN, f, 1, 1), 3, 4, 1);
        }
    }

    private static void sixtyPatterns() {
        part = "PATTERNS, 60 at most, are numbered as they come";
        PatternLoom l = new PatternLoom();
        for (int i = 0; i < 60; i++) {
            due("one that is refused takes no number", l.pattern(MOVED, i, 0, 0), UNKNOWN);
            due("pattern()", l.pattern(PLAIN, 100 + i, 0, 0), i);
        }
        for (int sort = PLAIN; sort <= OLD; sort++) {
            due("the 61st, of sort " + sort, l.pattern(sort, 0, 1, 0), FULL);
        }
        due("count(0)", l.count(0), 60);
        dueAsk(l, 0, 0, 0, 100);
        dueAsk(l, 59, 0, 0, 159);
        dueFails(l, 60, 0, 0, UNKNOWN);
        due("name() of the 60th", l.name(2, 59), 0);
        due("name() of a 61st", l.name(2, 60), UNKNOWN);
        due("weave() of the 60th", l.weave(59, 0, 0, 1, 1), 1);
        due("weave() of a 61st", l.weave(60, 0, 0, 1, 1), UNKNOWN);
    }

    private static void sumsWrap() {
        part = "All sums wrap";
        PatternLoom l = new PatternLoom();
        int hem = l.pattern(OLD, 0, 0, 0);
        dueAsk(l, hem, MAX, 1, 0);
        dueAsk(l, hem, MAX, 2, -1);
        dueAsk(l, hem, MIN, -1, 1);
        int seam = l.pattern(OLD, 1, 0, 0);
        dueAsk(l, seam, 7, MAX, MIN + 6);
        l.dye(0, 1, MIN);
        dueAsk(l, seam, 1, -1, MAX);
        dueAsk(l, l.pattern(TWILL, 1, 10, 0), MAX, 1, -8);
        dueAsk(l, l.pattern(TWILL, 0, 10, MAX), 1, 0, MIN);
        dueAsk(l, l.pattern(TWILL, 0, 10, MIN), -1, 0, MAX);
        int turned = l.pattern(TURNED, yOf(l), 3, 0);
        dueAsk(l, turned, MAX, 2, MIN + 1);
        dueAsk(l, turned, MIN, -1, MAX);
        l.name(2, plain(l, MAX));
        dueAsk(l, l.pattern(NAMED, 2, 1, 0), 0, 0, MIN);
        dueAsk(l, l.pattern(NAMED, 2, MAX, 0), 0, 0, -2);
        l.name(2, plain(l, MIN));
        dueAsk(l, l.pattern(NAMED, 2, -1, 0), 0, 0, MAX);
        dueAsk(l, l.pattern(BOTH, plain(l, MAX), plain(l, 1), 1), 0, 0, MIN);
        dueAsk(l, l.pattern(BOTH, plain(l, MIN), plain(l, 1), -1), 0, 0, MAX);
        int x = xOf(l);
        due("weave()", l.weave(x, MAX, 0, 3, 1), 3);
        dueCloth(l, MAX, 0, MIN + 1);
        due("weave()", l.weave(yOf(l), 0, MAX, 1, 3), 3);
        dueCloth(l, MAX, 0, MIN + 1);
    }

    private static void differencesWrap() {
        part = "All differences wrap";
        PatternLoom l = new PatternLoom();
        int x = xOf(l);
        int y = yOf(l);
        dueAsk(l, l.pattern(MOVED, x, 2, 0), MIN + 1, 0, MAX);
        dueAsk(l, l.pattern(MOVED, x, -2, 0), MAX, 0, MIN + 1);
        dueAsk(l, l.pattern(MOVED, x, MIN, 0), 1, 0, MIN + 1);
        dueAsk(l, l.pattern(MOVED, y, 0, 2), 0, MIN + 1, MAX);
        dueAsk(l, l.pattern(MOVED, y, 0, -2), 0, MAX, MIN + 1);
        dueAsk(l, l.pattern(MOVED, y, 0, MIN), 0, 1, MIN + 1);
        // -MIN is MIN: x - 1 of it is MAX
        dueAsk(l, l.pattern(TURNED, l.pattern(MOVED, x, 1, 0), 1, 0), MIN, 0, MAX);
        dueAsk(l, l.pattern(TURNED, l.pattern(MOVED, y, 0, 1), 2, 0), 0, MIN, MAX);
    }

    private static void productsWrap() {
        part = "All products wrap";
        PatternLoom l = new PatternLoom();
        int tens = l.pattern(TWILL, MAX, 10, 0);
        dueAsk(l, tens, 0, 2, -2);
        dueAsk(l, tens, 0, 3, (MAX - 2) % 10);
        dueAsk(l, l.pattern(TWILL, 65536, 10, 0), 3, 65536, 3);
        int product = l.pattern(TURNED, xOf(l), 3, 0);
        dueAsk(l, product, 65536, 65536, 0);
        dueAsk(l, product, MAX, 2, -2);
        dueAsk(l, product, MAX, MAX, 1);
        int two = plain(l, 2);
        dueAsk(l, l.pattern(BOTH, plain(l, 0), two, MAX), 0, 0, -2);
        dueAsk(l, l.pattern(BOTH, plain(l, 0), plain(l, MIN), -1), 0, 0, MIN);
        dueAsk(l, l.pattern(BOTH, plain(l, 5), two, MIN), 0, 0, 5);
    }

    private static void quotients() {
        part = "/ as the language has it (ZERO)";
        PatternLoom l = new PatternLoom();
        int by = l.pattern(STRIPES, 10, 20, 2);
        int[] from = {-4, 10, -3, 20, -2, 20, -1, 10, 0, 10, 1, 10, 2, 20, 3, 20, 4, 10};
        for (int i = 0; i < from.length; i += 2) {
            dueAsk(l, by, from[i], 0, from[i + 1]);
        }
        int byLess = l.pattern(STRIPES, 10, 20, -2);
        for (int i = 0; i < from.length; i += 2) {
            dueAsk(l, byLess, -from[i], 0, from[i + 1]);
        }
        int turnedRound = l.pattern(STRIPES, 10, 20, -1);
        dueAsk(l, turnedRound, MIN, 0, 10);
        dueAsk(l, turnedRound, MIN + 1, 0, 20);
        int byMost = l.pattern(STRIPES, 10, 20, MAX);
        dueAsk(l, byMost, MAX - 1, 0, 10);
        dueAsk(l, byMost, MAX, 0, 20);
        dueAsk(l, byMost, MIN, 0, 20);
        int byLeast = l.pattern(STRIPES, 10, 20, MIN);
        dueAsk(l, byLeast, MIN + 1, 0, 10);
        dueAsk(l, byLeast, MIN, 0, 20);
        int byNone = l.pattern(STRIPES, 10, 20, 0);
        for (int x : FAR) {
            dueFails(l, byNone, x, 1, ZERO);
        }
    }

    private static void remainders() {
        part = "% as the language has it (ZERO)";
        PatternLoom l = new PatternLoom();
        int by = l.pattern(TWILL, 0, 3, 0);
        int byLess = l.pattern(TWILL, 0, -3, 0);
        int[] from = {-4, -1, -3, 0, -2, -2, -1, -1, 0, 0, 1, 1, 2, 2, 3, 0, 4, 1};
        for (int i = 0; i < from.length; i += 2) {
            dueAsk(l, by, from[i], 0, from[i + 1]);
            dueAsk(l, byLess, from[i], 0, from[i + 1]);
        }
        int byOneLess = l.pattern(TWILL, 0, -1, 4);
        dueAsk(l, byOneLess, MIN, 0, 4);
        dueAsk(l, l.pattern(TWILL, 0, MAX, 0), MIN, 0, -1);
        dueAsk(l, l.pattern(TWILL, 0, MIN, 0), MIN, 0, 0);
        int byNone = l.pattern(TWILL, 1, 0, 4);
        for (int x : FAR) {
            dueFails(l, byNone, x, 1, ZERO);
        }
    }

    private static void dyesAtFirst() {
        part = "DYES 0 .. 3 are rows of 8 COLOURS (COLOUR i of each is i at first)";
        PatternLoom l = new PatternLoom();
        int x = xOf(l);
        for (int d = 0; d < 4; d++) {
            int dyed = l.pattern(DYED, x, d, 0);
            due("weave()", l.weave(dyed, 0, 0, 8, 1), 8);
            dueCloth(l, 0, 1, 2, 3, 4, 5, 6, 7);
            due("weave()", l.weave(dyed, 0, 0, 9, 1), INDEX);
            for (int i = 0; i < 8; i++) {
                due("dye(" + d + ", " + i + ")", l.dye(d, i, 100 * d + i), i);
            }
        }
        for (int d = 0; d < 4; d++) {
            for (int i = 0; i < 8; i++) {
                due("dye(" + d + ", " + i + ")", l.dye(d, i, 0), 100 * d + i);
            }
        }
    }

    private static void dyeEdges() {
        part = "DYES 0 .. 3, of 8 COLOURS: no such DYE, no such COLOUR";
        PatternLoom l = new PatternLoom();
        int plain = plain(l, 1);
        int[][] none = {{-1, 0}, {4, 0}, {0, -1}, {0, 8}, {3, -1}, {3, 8}, {-1, 8}, {4, -1}, {MIN, 0}, {MAX, 0}, {0, MIN}, {0, MAX}};
        for (int[] at : none) {
            due("dye()", l.dye(0, 0, 0), 0);
            due("dye(" + at[0] + ", " + at[1] + ")", l.dye(at[0], at[1], 5), 0);
            due("why()", l.why(), UNKNOWN);
        }
        for (int sort : new int[] {DYED, FAST}) {
            for (int d : new int[] {-1, 4, MIN, MAX}) {
                due("pattern(" + sort + ", 0, " + d + ")", l.pattern(sort, plain, d, 0), UNKNOWN);
            }
            dueAsk(l, l.pattern(sort, plain, 0, 0), 0, 0, 1);
            dueAsk(l, l.pattern(sort, plain, 3, 0), 0, 0, 1);
        }
    }

    private static void nameEdges() {
        part = "NAMES 0 .. 5";
        PatternLoom l = new PatternLoom();
        int plain = plain(l, 1);
        for (int n : new int[] {-1, 6, MIN, MAX}) {
            due("name(" + n + ", 0)", l.name(n, plain), UNKNOWN);
            due("name(" + n + ", NONE)", l.name(n, NONE), UNKNOWN);
            due("pattern(NAMED, " + n + ")", l.pattern(NAMED, n, 0, 0), UNKNOWN);
            due("pattern(OLD, " + n + ")", l.pattern(OLD, n, 0, 0), UNKNOWN);
        }
        for (int n : new int[] {0, 5}) {
            l.name(n, plain);
            dueAsk(l, l.pattern(NAMED, n, 0, 0), 0, 0, 1);
            dueAsk(l, l.pattern(OLD, n, 0, 0), 0, 0, 1);
        }
    }

    private static void namesAtFirst() {
        part = "NAMES have a PATTERN or none: at first 0 has HEM, 1 has SEAM; the others have none";
        PatternLoom l = new PatternLoom();
        int plain = plain(l, 1);
        for (int n = 0; n < 6; n++) {
            int named = l.pattern(NAMED, n, 0, 0);
            if (n < 2) {
                dueAsk(l, named, 5, 3, n == 0 ? 0 : 8);
            } else {
                dueFails(l, named, 5, 3, MISSING);
            }
            due("count(3)", l.count(3), 2);
            due("name(" + n + ")", l.name(n, plain), n < 2 ? 1 : 0);
        }
    }

    private static void hem() {
        part = "HEM: (x + y) % 2";
        PatternLoom l = new PatternLoom();
        int hem = l.pattern(NAMED, 0, 0, 0);
        int[][] at = {{0, 0, 0}, {1, 0, 1}, {0, 1, 1}, {1, 1, 0}, {-1, 0, -1}, {0, -1, -1}, {-1, -1, 0}, {2, -3, -1}, {-2, 3, 1}, {MIN, 0, 0}, {MIN, 1, -1}, {MAX, MIN, -1}};
        for (int[] a : at) {
            dueAsk(l, hem, a[0], a[1], a[2]);
        }
    }

    private static void seam() {
        part = "SEAM: COLOUR x of DYE 0 (INDEX), and y more";
        PatternLoom l = new PatternLoom();
        int seam = l.pattern(NAMED, 1, 0, 0);
        dueAsk(l, seam, 0, 10, 10);
        dueAsk(l, seam, 7, -10, -3);
        for (int x : new int[] {-1, 8, MIN, MAX}) {
            dueFails(l, seam, x, 0, INDEX);
        }
        l.dye(0, 7, 70);
        l.dye(1, 7, 71);
        dueAsk(l, seam, 7, 1, 71);
        l.dye(0, 7, 50);
        dueAsk(l, seam, 7, 1, 51);
        dueAsk(l, l.pattern(OLD, 1, 0, 0), 7, 2, 52);
    }

    // ---- Sorts

    private static void plain() {
        part = "0 PLAIN: a";
        PatternLoom l = new PatternLoom();
        for (int colour : FAR) {
            int p = plain(l, colour);
            dueAsk(l, p, MIN, MAX, colour);
            due("count(3)", l.count(3), 1);
        }
    }

    private static void stripes() {
        part = "1 STRIPES: x / c is even: a; else b";
        PatternLoom l = new PatternLoom();
        int p = l.pattern(STRIPES, MIN, MAX, 5);
        int[] at = {0, 4, 5, 9, 10, -4, -5, -9, -10};
        int[] due = {MIN, MIN, MAX, MAX, MIN, MIN, MAX, MAX, MIN};
        for (int i = 0; i < at.length; i++) {
            dueAsk(l, p, at[i], i, due[i]);
        }
        due("count(3)", l.count(3), 1);
    }

    private static void twill() {
        part = "2 TWILL: (x + a y) % b + c";
        PatternLoom l = new PatternLoom();
        int p = l.pattern(TWILL, 3, 7, 100);
        dueAsk(l, p, 1, 2, 100);
        dueAsk(l, p, 0, 2, 106);
        dueAsk(l, p, 2, 2, 101);
        dueAsk(l, p, -2, -2, 99);
        dueAsk(l, p, 2, -2, 96);
        dueAsk(l, l.pattern(TWILL, -3, 7, -100), 1, 2, -105);
        due("count(3)", l.count(3), 1);
    }

    private static void moved() {
        part = "3 MOVED: PATTERN a at x - b, y - c";
        PatternLoom l = new PatternLoom();
        dueAsk(l, l.pattern(MOVED, xOf(l), 10, 100), 3, 4, -7);
        dueAsk(l, l.pattern(MOVED, yOf(l), 10, 100), 3, 4, -96);
        dueAsk(l, l.pattern(MOVED, xOf(l), 0, 0), 3, 4, 3);
        due("count(3)", l.count(3), 2);
    }

    private static void turned() {
        part = "4 TURNED: PATTERN a at y, x (b is 0), -x, y (1), x, -y (2), x y, x + y (3)";
        PatternLoom l = new PatternLoom();
        int x = xOf(l);
        int y = yOf(l);
        int[][] due = {{4, 3}, {-3, 4}, {3, -4}, {12, 7}};
        for (int b = 0; b < 4; b++) {
            dueAsk(l, l.pattern(TURNED, x, b, 0), 3, 4, due[b][0]);
            due("count(3)", l.count(3), 2);
            dueAsk(l, l.pattern(TURNED, y, b, 0), 3, 4, due[b][1]);
            due("count(3)", l.count(3), 3);
        }
    }

    private static void over() {
        part = "5 OVER: what PATTERN a tells, if it is not 0; else what PATTERN b tells";
        PatternLoom l = new PatternLoom();
        int x = xOf(l);
        int p = l.pattern(OVER, x, plain(l, 77), 0);
        for (int at : new int[] {MIN + 1, -1, 1, MAX}) {
            dueAsk(l, p, at, 0, at);
            due("count(3), b isn't asked", l.count(3), 2);
        }
        dueAsk(l, p, 0, 0, 77);
        due("count(3)", l.count(3), 3);
        dueAsk(l, l.pattern(OVER, x, x, 0), 0, 0, 0);
        due("count(3)", l.count(3), 3);
        dueFails(l, l.pattern(OVER, failing(l, ZERO), failing(l, INDEX), 0), 0, 0, ZERO);
        due("count(3), b isn't asked", l.count(3), 2);
    }

    private static void where() {
        part = "6 WHERE: what PATTERN b tells, if PATTERN a tells one above 0, else what PATTERN c tells";
        PatternLoom l = new PatternLoom();
        int p = l.pattern(WHERE, xOf(l), plain(l, 5), l.pattern(MOVED, plain(l, 6), 0, 0));
        for (int above : new int[] {1, 2, MAX}) {
            dueAsk(l, p, above, 0, 5);
            due("count(3), c isn't asked", l.count(3), 3);
        }
        for (int notAbove : new int[] {0, -1, MIN + 1}) {
            dueAsk(l, p, notAbove, 0, 6);
            due("count(3), b isn't asked", l.count(3), 4);
        }
        dueAsk(l, l.pattern(WHERE, plain(l, MIN), plain(l, 5), plain(l, 6)), 0, 0, 6);
    }

    private static void dyed() {
        part = "7 DYED: the COLOUR of DYE b, as it is by then, that PATTERN a tells the number of (INDEX)";
        PatternLoom l = new PatternLoom();
        int p = l.pattern(DYED, xOf(l), 3, 0);
        dueNumbers(l, p);
        l.dye(3, 0, MIN);
        l.dye(3, 7, MAX);
        dueAsk(l, p, 0, 0, MIN);
        dueAsk(l, p, 7, 0, MAX);
        l.dye(3, 7, 1);
        dueAsk(l, p, 7, 0, 1);
        l.dye(2, 7, 2);
        dueAsk(l, p, 7, 0, 1);
    }

    private static void dueNumbers(PatternLoom l, int p) {
        for (int number : new int[] {-1, 8, MIN + 1, MAX}) {
            dueFails(l, p, number, 0, INDEX);
            due("count(3)", l.count(3), 2);
        }
        dueAsk(l, p, 0, 0, 0);
        dueAsk(l, p, 7, 0, 7);
        due("count(3)", l.count(3), 2);
    }

    private static void fast() {
        part = "8 FAST: likewise, DYE b as it was when the PATTERN came";
        PatternLoom l = new PatternLoom();
        int x = xOf(l);
        int first = l.pattern(FAST, x, 3, 0);
        l.dye(3, 0, MIN);
        l.dye(3, 7, MAX);
        int second = l.pattern(FAST, x, 3, 0);
        l.dye(3, 7, 1);
        dueNumbers(l, first);
        dueAsk(l, second, 0, 0, MIN);
        dueAsk(l, second, 7, 0, MAX);
        dueFails(l, second, 8, 0, INDEX);
        dueFails(l, second, -1, 0, INDEX);
    }

    private static void named() {
        part = "9 NAMED: what the PATTERN tells that NAME a has by then (MISSING), plus b";
        PatternLoom l = new PatternLoom();
        int p = l.pattern(NAMED, 5, 10, 0);
        dueFails(l, p, 0, 0, MISSING);
        due("count(3)", l.count(3), 2);
        l.name(5, plain(l, 7));
        dueAsk(l, p, 0, 0, 17);
        l.name(5, plain(l, -7));
        dueAsk(l, p, 0, 0, 3);
        l.name(5, NONE);
        dueFails(l, p, 0, 0, MISSING);
        l.name(5, l.pattern(NAMED, 0, 20, 0));
        dueAsk(l, p, 3, 4, 31);
        due("count(3)", l.count(3), 3);
    }

    private static void worn() {
        part = "10 WORN: each b-th time that this PATTERN is asked it tells c in its stead (a is not asked)";
        PatternLoom l = new PatternLoom();
        int x = xOf(l);
        int told = 0;
        for (int b : new int[] {1, 2, 49, 50}) {
            int p = l.pattern(WORN, x, b, -9);
            for (int time = 1; time <= 2 * b + 1; time++) {
                boolean worn = time % b == 0;
                due("ask(), time " + time + " of " + b, l.ask(p, 5, 0), worn ? -9 : 5);
                due("count(3)", l.count(3), worn ? 1 : 2);
                told += worn ? 1 : 0;
            }
            due("count(4)", l.count(4), told);
        }

        PatternLoom two = new PatternLoom();
        int five = plain(two, 5);
        int one = two.pattern(WORN, five, 3, -1);
        int other = two.pattern(WORN, five, 3, -2);
        due("weave()", two.weave(one, 0, 0, 2, 1), 2);
        dueCloth(two, 5, 5);
        dueAsk(two, other, 0, 0, 5);
        dueAsk(two, one, 0, 0, -1);
        dueAsk(two, other, 0, 0, 5);
        dueAsk(two, one, 0, 0, 5);
        dueAsk(two, other, 0, 0, -2);
        due("count(4)", two.count(4), 2);
    }

    private static void wornWhenItFails() {
        part = "10 WORN: each b-th time that this PATTERN is asked (and fails, or isn't asked at all)";
        PatternLoom l = new PatternLoom();
        int p = l.pattern(WORN, failing(l, ZERO), 3, 4);
        dueFails(l, p, 0, 0, ZERO);
        due("weave()", l.weave(p, 0, 0, 2, 1), ZERO);
        dueAsk(l, p, 0, 0, 4);
        int second = l.pattern(WORN, plain(l, 7), 2, 8);
        dueAsk(l, second, 0, 0, 7);
        l.weave(second, 0, 0, 13, 1);
        l.weave(second, 0, 0, 1, 0);
        dueAsk(l, l.pattern(OVER, plain(l, 1), second, 0), 0, 0, 1);
        dueAsk(l, second, 0, 0, 8);
        due("count(4)", l.count(4), 2);
    }

    private static void both() {
        part = "11 BOTH: what PATTERN a tells plus c times what PATTERN b tells";
        PatternLoom l = new PatternLoom();
        int x = xOf(l);
        int y = yOf(l);
        for (int c : new int[] {-1, 0, 1, 10}) {
            dueAsk(l, l.pattern(BOTH, x, y, c), 3, 4, 3 + 4 * c);
            due("count(3)", l.count(3), 4);
        }
        dueFails(l, l.pattern(BOTH, failing(l, ZERO), failing(l, MISSING), 1), 0, 0, ZERO);
        due("count(3)", l.count(3), 2);
    }

    private static void safe() {
        part = "12 SAFE: what PATTERN a tells; c, if that FAILS by b (0: by any; never by TIRED)";
        for (int failure = 1; failure <= 4; failure++) {
            PatternLoom l = new PatternLoom();
            int f = failing(l, -10 - failure);
            for (int b = 0; b <= 3; b++) {
                int p = l.pattern(SAFE, f, b, MIN);
                if (failure != 4 && (b == 0 || b == failure)) {
                    dueAsk(l, p, 0, 0, MIN);
                    due("weave()", l.weave(p, 0, 0, 1, 1), 1);
                    dueCloth(l, MIN);
                } else {
                    dueFails(l, p, 0, 0, -10 - failure);
                    due("weave()", l.weave(p, 0, 0, 1, 1), -10 - failure);
                    dueCloth(l);
                }
            }
            dueAsk(l, l.pattern(SAFE, plain(l, 0), 0, 5), 0, 0, 0);
            due("count(3)", l.count(3), 2);
        }
    }

    private static void safeTwentyTimes() {
        part = "12 SAFE: but not more than 20 times in one ask(), weave(), by all of them";
        PatternLoom l = new PatternLoom();
        int one = l.pattern(SAFE, failing(l, ZERO), 1, 1);
        due("weave() of 20", l.weave(one, 0, 0, 5, 4), 20);
        due("weave() of 21", l.weave(one, 0, 0, 7, 3), ZERO);
        due("count(1)", l.count(1), 20);
        due("weave() of 20, anew", l.weave(one, 0, 0, 10, 2), 20);
        dueAsk(l, one, 0, 0, 1);
        due("weave() of 20, behind ask()", l.weave(one, 0, 0, 2, 10), 20);

        int index = l.pattern(SAFE, failing(l, INDEX), 0, 100);
        int missing = l.pattern(SAFE, failing(l, MISSING), 3, 10000);
        int three = l.pattern(BOTH, one, l.pattern(BOTH, index, missing, 1), 1);
        due("weave() of 6 times 3", l.weave(three, 0, 0, 6, 1), 6);
        due("weave() of 7 times 3", l.weave(three, 0, 0, 7, 1), MISSING);
        due("count(1)", l.count(1), 6);

        int five = three;
        for (int more : new int[] {one, index}) {
            five = l.pattern(BOTH, five, more, 1);
        }
        int ten = l.pattern(BOTH, five, five, 1);
        int twenty = l.pattern(BOTH, ten, ten, 1);
        int due = 4 * (2 * 1 + 2 * 100 + 10000);
        dueAsk(l, twenty, 0, 0, due);
        dueAsk(l, twenty, 0, 0, due);
    }

    private static void safeCountsOnlyWhatItSaves() {
        part = "12 SAFE: not more than 20 times (only those when it tells c are times)";
        PatternLoom l = new PatternLoom();
        int seven = l.pattern(SAFE, plain(l, 7), 0, 1);
        due("weave() that never fails", l.weave(seven, 0, 0, 12, 12), 144);
        int notBy = l.pattern(SAFE, failing(l, ZERO), 2, 1);
        int by = l.pattern(SAFE, notBy, 1, 2);
        due("weave() of 20", l.weave(by, 0, 0, 4, 5), 20);
        due("weave() of 21", l.weave(by, 0, 0, 3, 7), ZERO);
        int seam = l.pattern(SAFE, l.pattern(OLD, 1, 0, 0), 2, 99);
        due("weave() of 4 in each row", l.weave(seam, 0, 0, 12, 6), INDEX);
        due("count(1), the sixth row up to its first", l.count(1), 5 * 12 + 8);

        // 21 times in one ask(): the 21st fails, and a SAFE one around it can't help, either
        int one = l.pattern(SAFE, failing(l, ZERO), 0, 1);
        int four = l.pattern(BOTH, l.pattern(BOTH, one, one, 1), l.pattern(BOTH, one, one, 1), 1);
        int twenty = l.pattern(BOTH, l.pattern(BOTH, l.pattern(BOTH, four, four, 1), l.pattern(BOTH, four, four, 1), 1), four, 1);
        dueAsk(l, twenty, 0, 0, 20);
        dueAsk(l, l.pattern(BOTH, twenty, seven, 1), 0, 0, 27);
        dueFails(l, l.pattern(BOTH, twenty, one, 1), 0, 0, ZERO);
        dueFails(l, l.pattern(SAFE, l.pattern(BOTH, twenty, one, 1), 0, 1), 0, 0, ZERO);
        dueFails(l, l.pattern(BOTH, twenty, l.pattern(SAFE, failing(l, MISSING), 0, 1), 1), 0, 0, MISSING);
        dueAsk(l, one, 0, 0, 1);
    }

    private static void old() {
        part = "13 OLD: what the PATTERN tells that NAME a had when this came (MISSING)";
        PatternLoom l = new PatternLoom();
        int ofNone = l.pattern(OLD, 5, 0, 0);
        l.name(5, plain(l, 7));
        int ofSeven = l.pattern(OLD, 5, 100, 100);
        l.name(5, plain(l, 8));
        int ofEight = l.pattern(OLD, 5, 0, 0);
        int ofHem = l.pattern(OLD, 0, 0, 0);
        int ofSeam = l.pattern(OLD, 1, 0, 0);
        for (int n : new int[] {0, 1, 5}) {
            l.name(n, NONE);
        }
        int ofNoHem = l.pattern(OLD, 0, 0, 0);
        dueFails(l, ofNone, 0, 0, MISSING);
        due("count(3)", l.count(3), 2);
        dueAsk(l, ofSeven, 0, 0, 7);
        dueAsk(l, ofEight, 0, 0, 8);
        dueAsk(l, ofHem, 4, 3, 1);
        dueAsk(l, ofSeam, 4, 3, 7);
        due("count(3)", l.count(3), 2);
        dueFails(l, ofNoHem, 4, 3, MISSING);
    }

    private static void tiredAtTheHundredAndFirst() {
        part = "TIRED: the 101st PATTERN would be asked for one PLACE";
        PatternLoom l = new PatternLoom();
        dueAsk(l, asking(l, 99), 0, 0, 0);
        due("count(3)", l.count(3), 99);
        int hundred = asking(l, 100);
        dueAsk(l, hundred, 0, 0, 0);
        due("count(3)", l.count(3), 100);
        dueFails(l, asking(l, 101), 0, 0, TIRED);
        due("count(3)", l.count(3), 100);
        dueAsk(l, hundred, 0, 0, 0);

        PatternLoom loop = new PatternLoom();
        int named = loop.pattern(NAMED, 3, 0, 0);
        // the 60 patterns ask one another once, and round again through the name
        int last = named;
        for (int i = 1; i < 60; i++) {
            last = loop.pattern(i % 2 == 0 ? OVER : SAFE, last, 0, 9);
        }
        loop.name(3, last);
        for (int p : new int[] {named, last}) {
            dueFails(loop, p, 0, 0, TIRED);
            due("count(3)", loop.count(3), 100);
            due("weave()", loop.weave(p, 0, 0, 12, 12), TIRED);
            dueCloth(loop);
        }
    }

    private static void tiredByAllThatCount() {
        part = "TIRED: (all count: HEM, SEAM, one that is MISSING, too)";
        PatternLoom l = new PatternLoom();
        int[] lastButOne = {
            l.pattern(NAMED, 0, 0, 0), l.pattern(NAMED, 1, 0, 0), l.pattern(NAMED, 5, 0, 0),
            l.pattern(OLD, 0, 0, 0), l.pattern(OLD, 1, 0, 0), l.pattern(OLD, 5, 0, 0),
        };
        int others = asking(l, 97);
        int oneMore = l.pattern(MOVED, others, 0, 0);
        for (int i = 0; i < lastButOne.length; i++) {
            // BOTH itself, the 97 or 98, the one named and what it asks
            int hundred = l.pattern(BOTH, others, lastButOne[i], 1);
            int hundredAndOne = l.pattern(BOTH, oneMore, lastButOne[i], 1);
            if (i % 3 == 2) {
                dueFails(l, hundred, 3, 4, MISSING);
            } else {
                dueAsk(l, hundred, 3, 4, i % 3 == 0 ? 1 : 7);
            }
            due("count(3)", l.count(3), 100);
            dueFails(l, hundredAndOne, 3, 4, TIRED);
            due("count(3)", l.count(3), 100);
        }
        int safe = l.pattern(SAFE, lastButOne[2], 0, 9);
        dueAsk(l, l.pattern(BOTH, asking(l, 96), safe, 1), 0, 0, 9);
        due("count(3)", l.count(3), 100);
        dueFails(l, l.pattern(BOTH, others, safe, 1), 0, 0, TIRED);
    }

    private static void tiredIsOfOnePlace() {
        part = "TIRED: for one PLACE (each of weave() begins anew)";
        PatternLoom l = new PatternLoom();
        int hundred = asking(l, 100);
        due("weave()", l.weave(hundred, 0, 0, 12, 12), 144);
        due("count(3)", l.count(3), 100);
        int x = xOf(l);
        int one = plain(l, 1);
        due("weave()", l.weave(l.pattern(WHERE, x, asking(l, 98), one), -1, 0, 3, 1), 3);
        due("count(3)", l.count(3), 100);
        due("weave()", l.weave(l.pattern(WHERE, x, asking(l, 99), one), -1, 0, 3, 1), TIRED);
        dueCloth(l, 1, 1);
        due("count(3)", l.count(3), 100);
    }

    private static void tiredLeavesTheLastUnasked() {
        part = "TIRED: the 101st PATTERN would be asked (and one that isn't asked doesn't count)";
        PatternLoom l = new PatternLoom();
        int seven = plain(l, 7);
        dueAsk(l, l.pattern(OVER, behind(l, 98, seven), failing(l, ZERO), 0), 0, 0, 7);
        due("count(3), the other isn't asked", l.count(3), 100);
        dueAsk(l, l.pattern(OVER, asking(l, 98), seven, 0), 0, 0, 7);
        dueFails(l, l.pattern(OVER, asking(l, 99), seven, 0), 0, 0, TIRED);

        PatternLoom w = new PatternLoom();
        int always = w.pattern(WORN, plain(w, 7), 1, 9);
        dueAsk(w, behind(w, 99, always), 0, 0, 9);
        due("count(3)", w.count(3), 100);
        dueFails(w, behind(w, 100, always), 0, 0, TIRED);
        due("count(4), the 101st told nothing", w.count(4), 1);
        int second = w.pattern(WORN, plain(w, 7), 2, 8);
        int asHundredth = behind(w, 99, second);
        dueFails(w, asHundredth, 0, 0, TIRED);
        dueAsk(w, asHundredth, 0, 0, 8);
        dueFails(w, behind(w, 100, second), 0, 0, TIRED);
        dueAsk(w, second, 0, 0, 7);
        due("count(4)", w.count(4), 2);
    }

    // ---- Refused, and nothing changes

    /** A loom with a cloth, a WORN pattern that is next to tell c, changed dyes and names. */
    private static PatternLoom usedLoom() {
        PatternLoom l = new PatternLoom();
        int x = xOf(l);
        l.dye(2, 3, 33);
        int dyed = l.pattern(DYED, x, 2, 0);
        int worn = l.pattern(WORN, x, 2, 44);
        l.name(4, dyed);
        l.weave(dyed, 0, 0, 5, 1);
        l.ask(worn, 1, 0);
        return l;
    }

    private static void dueUnchanged(PatternLoom l, String before) {
        due("all that is told", state(l), before);
        PatternLoom fresh = usedLoom();
        for (int d = 0; d < 4; d++) {
            for (int i = 0; i < 8; i++) {
                due("dye " + d + ", " + i, l.dye(d, i, 0), fresh.dye(d, i, 0));
            }
        }
        dueAsk(l, 2, 5, 0, 44);
        due("name(4)", l.name(4, 0), 1);
        due("name(5)", l.name(5, NONE), 0);
        due("pattern()", l.pattern(PLAIN, 0, 0, 0), 3);
    }

    private static void refusedDye() {
        part = "Refused, and nothing changes: dye()";
        PatternLoom l = usedLoom();
        l.dye(-1, 0, 9);
        String before = state(l);
        for (int[] at : new int[][] {{-1, 3}, {4, 3}, {2, -1}, {2, 8}, {2, 11}, {1, 11}, {3, -5}}) {
            due("dye(" + at[0] + ", " + at[1] + ")", l.dye(at[0], at[1], 9), 0);
        }
        dueUnchanged(l, before);
    }

    private static void refusedPattern() {
        part = "Refused, and nothing changes: pattern()";
        PatternLoom l = usedLoom();
        String before = state(l);
        due("SORT", l.pattern(14, 0, 0, 0), OUTSIDE);
        due("UNKNOWN", l.pattern(MOVED, 3, 0, 0), UNKNOWN);
        due("b", l.pattern(TURNED, 0, 4, 0), OUTSIDE);
        dueUnchanged(l, before);
        PatternLoom full = usedLoom();
        for (int i = 3; i < 60; i++) {
            full.pattern(PLAIN, i, 0, 0);
        }
        before = state(full);
        due("FULL", full.pattern(PLAIN, 99, 0, 0), FULL);
        due("all that is told", state(full), before);
        dueAsk(full, 59, 0, 0, 59);
    }

    private static void refusedName() {
        part = "Refused, and nothing changes: name()";
        PatternLoom l = usedLoom();
        int named = l.pattern(NAMED, 4, 0, 0);
        String before = state(l);
        for (int p : new int[] {-2, 4, MIN, MAX}) {
            due("name(4, " + p + ")", l.name(4, p), UNKNOWN);
            due("name(5, " + p + ")", l.name(5, p), UNKNOWN);
        }
        due("name(6, 0)", l.name(6, 0), UNKNOWN);
        due("name(-1, NONE)", l.name(-1, NONE), UNKNOWN);
        due("all that is told", state(l), before);
        dueAsk(l, named, 3, 0, 33);
        due("name(5) has none", l.name(5, NONE), 0);
    }

    private static void refusedAsk() {
        part = "Refused, and nothing changes: ask()";
        PatternLoom l = usedLoom();
        l.ask(3, 0, 0);
        String before = state(l);
        due("count(3) is of the ask() ahead of it", l.count(3), 2);
        for (int p : new int[] {-1, 3, 59, 60, MIN, MAX}) {
            due("ask(" + p + ")", l.ask(p, 0, 0), 0);
        }
        dueUnchanged(l, before);
    }

    private static void refusedWeave() {
        part = "Refused, and nothing changes: weave()";
        PatternLoom l = usedLoom();
        String before = state(l);
        for (int p : new int[] {-1, 3, 59, 60, MIN, MAX}) {
            due("weave(" + p + ")", l.weave(p, 0, 0, 1, 1), UNKNOWN);
        }
        for (int side : new int[] {0, 13, -1, MIN, MAX}) {
            due("w is " + side, l.weave(2, 0, 0, side, 12), OUTSIDE);
            due("h is " + side, l.weave(2, 0, 0, 12, side), OUTSIDE);
        }
        dueUnchanged(l, before);
    }

    private static void refusedCount() {
        part = "Refused, and nothing changes: count()";
        PatternLoom l = usedLoom();
        String before = state(l);
        for (int what : new int[] {-1, 5, MIN, MAX}) {
            due("count(" + what + ")", l.count(what), OUTSIDE);
        }
        dueUnchanged(l, before);
    }

    private static void firstThatFits() {
        part = "OUTSIDE (SORT; then, behind UNKNOWN, another number that is not as told), UNKNOWN, FULL: the first of these that fits";
        PatternLoom l = new PatternLoom();
        due("SORT ahead of UNKNOWN", l.pattern(-1, 99, 99, 99), OUTSIDE);
        due("SORT ahead of UNKNOWN", l.pattern(14, 99, 99, 99), OUTSIDE);
        for (int sort : new int[] {TURNED, WORN, SAFE}) {
            due("UNKNOWN ahead of b", l.pattern(sort, 0, -1, 0), UNKNOWN);
            due("UNKNOWN ahead of b", l.pattern(sort, 0, 99, 0), UNKNOWN);
        }
        due("UNKNOWN ahead of w, h", l.weave(0, 0, 0, 0, 13), UNKNOWN);
        for (int i = 0; i < 60; i++) {
            l.pattern(PLAIN, i, 0, 0);
        }
        due("SORT ahead of FULL", l.pattern(14, 0, 0, 0), OUTSIDE);
        due("UNKNOWN ahead of FULL", l.pattern(WHERE, 0, 0, 60), UNKNOWN);
        due("UNKNOWN ahead of FULL", l.pattern(FAST, 0, 4, 0), UNKNOWN);
        due("UNKNOWN ahead of FULL", l.pattern(NAMED, 6, 0, 0), UNKNOWN);
        due("b ahead of FULL", l.pattern(TURNED, 0, 4, 0), OUTSIDE);
        due("b ahead of FULL", l.pattern(WORN, 0, 51, 0), OUTSIDE);
        due("b ahead of FULL", l.pattern(SAFE, 0, 4, 0), OUTSIDE);
        due("UNKNOWN ahead of b ahead of FULL", l.pattern(SAFE, 60, 4, 0), UNKNOWN);
        due("FULL", l.pattern(SAFE, 59, 3, 0), FULL);
    }

    // ---- Promises

    private static void newObject() {
        part = "No PATTERNS, but HEM, SEAM; no CLOTH";
        PatternLoom used = usedLoom();
        used.dye(9, 9, 9);
        PatternLoom l = new PatternLoom();
        StringBuilder none = new StringBuilder("0 0 0 0 0 0 0 0");
        for (int i = -1; i <= 144; i++) {
            none.append(" 0");
        }
        due("all that is told", state(l), none.toString());
        dueFails(l, 0, 0, 0, UNKNOWN);
        dueFails(l, -1, 0, 0, UNKNOWN);
        due("weave()", l.weave(0, 0, 0, 1, 1), UNKNOWN);
        due("name()", l.name(2, 0), UNKNOWN);
        due("the first", l.pattern(NAMED, 0, 0, 0), 0);
        dueAsk(l, 0, 3, 4, 1);
        due("the second", l.pattern(NAMED, 1, 0, 0), 1);
        dueAsk(l, 1, 3, 4, 7);
    }

    private static void dyeAnswers() {
        part = "COLOUR i of a DYE becomes v: what it was. 0 if that is UNKNOWN (told by why())";
        PatternLoom l = new PatternLoom();
        int was = 7;
        for (int v : FAR) {
            due("dye(3, 7, " + v + ")", l.dye(3, 7, v), was);
            due("why()", l.why(), 0);
            was = v;
        }
        due("a 0 that it was", l.dye(3, 0, 5), 0);
        due("why()", l.why(), 0);
        due("a 0 that is none", l.dye(3, 8, 5), 0);
        due("why()", l.why(), UNKNOWN);
        due("dye(3, 0, 0)", l.dye(3, 0, 0), 5);
        due("why()", l.why(), 0);
    }

    private static void patternOutsideB() {
        part = "OUTSIDE: SORT 0 .. 13; b of 4 (0 .. 3), of 10 (1 .. 50), of 12 (0 .. 3)";
        PatternLoom l = new PatternLoom();
        int p = plain(l, 0);
        for (int sort : new int[] {MIN, -1, 14, 15, MAX}) {
            due("SORT " + sort, l.pattern(sort, p, 1, p), OUTSIDE);
        }
        for (int sort = 0; sort <= 13; sort++) {
            due("SORT " + sort, l.pattern(sort, p, p + (sort == WORN ? 1 : 0), p), sort + 1);
        }
        int[][] between = {{TURNED, 0, 3}, {WORN, 1, 50}, {SAFE, 0, 3}};
        for (int[] s : between) {
            for (int b : new int[] {s[1] - 1, s[2] + 1, MIN, MAX}) {
                due("b of " + s[0] + " is " + b, l.pattern(s[0], p, b, 0), OUTSIDE);
            }
            int count = l.count(0);
            due("b of " + s[0] + " is the least", l.pattern(s[0], p, s[1], 0), count);
            due("b of " + s[0] + " is the most", l.pattern(s[0], p, s[2], 0), count + 1);
        }
    }

    private static void patternUnknown() {
        part = "UNKNOWN (there is no such PATTERN, DYE, NAME)";
        PatternLoom l = new PatternLoom();
        int first = plain(l, 0);
        int last = plain(l, 1);
        int[] none = {-1, last + 1, MIN, MAX};
        for (int p : none) {
            for (int sort : new int[] {MOVED, TURNED, OVER, WHERE, DYED, FAST, WORN, BOTH, SAFE}) {
                due("a of " + sort + " is " + p, l.pattern(sort, p, 1, 1), UNKNOWN);
            }
            for (int sort : new int[] {OVER, WHERE, BOTH}) {
                due("b of " + sort + " is " + p, l.pattern(sort, first, p, first), UNKNOWN);
            }
            due("c of WHERE is " + p, l.pattern(WHERE, first, first, p), UNKNOWN);
        }
        int number = last;
        for (int p : new int[] {first, last}) {
            for (int sort : new int[] {MOVED, TURNED, OVER, WHERE, DYED, FAST, WORN, BOTH, SAFE}) {
                number++;
                due("a of " + sort + " is " + p, l.pattern(sort, p, 1, 1), number);
            }
        }
        for (int sort : new int[] {OVER, WHERE, BOTH}) {
            number++;
            due("a, b of " + sort + " are the latest", l.pattern(sort, number - 1, number - 1, number - 1), number);
            due("a of " + sort + " is itself", l.pattern(sort, number + 1, number, number), UNKNOWN);
            due("b of " + sort + " is itself", l.pattern(sort, number, number + 1, number), UNKNOWN);
        }
        due("c of WHERE is itself", l.pattern(WHERE, number, number, number + 1), UNKNOWN);
    }

    private static void patternNotLookedAt() {
        part = "(What a SORT has not is not looked at.)";
        for (int any : new int[] {MIN, -1, 0, 99, MAX}) {
            PatternLoom l = new PatternLoom();
            for (int i = 0; i <= 5; i++) {
                l.pattern(PLAIN, i, any, any);
            }
            l.name(5, 5);
            // the last number of each is what it tells at 1, 0
            int[][] all = {
                {PLAIN, 5, any, any, 5}, {TURNED, 5, 0, any, 5}, {OVER, 5, 5, any, 5}, {OVER, 0, 5, any, 5},
                {DYED, 5, 3, any, 5}, {FAST, 5, 3, any, 5}, {NAMED, 5, 2, any, 7}, {OLD, 5, any, any, 5},
            };
            for (int[] s : all) {
                int number = l.count(0);
                due("SORT " + s[0], l.pattern(s[0], s[1], s[2], s[3]), number);
                dueAsk(l, number, 1, 0, s[4]);
            }
            int[][] unbound = {
                {PLAIN, any, 0, 0}, {STRIPES, any, any, any}, {TWILL, any, any, any}, {MOVED, 5, any, any},
                {NAMED, 5, any, 0}, {WORN, 5, 1, any}, {BOTH, 5, 5, any}, {SAFE, 5, 0, any},
            };
            for (int[] s : unbound) {
                int number = l.count(0);
                due("SORT " + s[0] + ", whose numbers may be any", l.pattern(s[0], s[1], s[2], s[3]), number);
            }
        }
    }

    private static void nameAnswers() {
        part = "A NAME has a PATTERN (NONE: none) from then on: 1, if it had one; 0. UNKNOWN";
        PatternLoom l = new PatternLoom();
        int first = plain(l, 7);
        for (int n = 0; n < 6; n++) {
            due("none", l.name(n, NONE), n < 2 ? 1 : 0);
            due("none again", l.name(n, NONE), 0);
            due("one", l.name(n, first), 0);
            due("the same one", l.name(n, first), 1);
            int named = l.pattern(NAMED, n, 0, 0);
            dueAsk(l, named, 0, 0, 7);
            due("the latest", l.name(n, named), 1);
            dueFails(l, named, 0, 0, TIRED);
            due("one that isn't yet", l.name(n, named + 1), UNKNOWN);
            due("one below NONE", l.name(n, NONE - 1), UNKNOWN);
            due("none", l.name(n, NONE), 1);
            dueFails(l, named, 0, 0, MISSING);
        }
    }

    private static void askAnswers() {
        part = "What a PATTERN tells of a PLACE. 0 if that is UNKNOWN, or FAILS (told by why())";
        PatternLoom l = new PatternLoom();
        int x = xOf(l);
        int y = yOf(l);
        for (int at : FAR) {
            dueAsk(l, x, at, 5, at == MIN ? 0 : at);
            dueAsk(l, y, 5, at, at == MIN ? 0 : at);
        }
        // colours that look like answers of other kinds are colours all the same
        for (int colour : new int[] {0, NONE, OUTSIDE, UNKNOWN, FULL, ZERO, INDEX, MISSING, TIRED}) {
            dueAsk(l, plain(l, colour), 0, 0, colour);
        }
        due("the latest", l.count(0), 12);
        dueFails(l, 12, 0, 0, UNKNOWN);
        dueFails(l, -1, 0, 0, UNKNOWN);
        l.name(2, failing(l, ZERO));
        dueFails(l, l.pattern(NAMED, 2, 5, 0), 0, 0, ZERO);
        dueFails(l, l.pattern(BOTH, x, failing(l, INDEX), 5), 5, 0, INDEX);
    }

    private static void weaveSides() {
        part = "h rows of w (1 .. 12 each) COLOURS: w h. UNKNOWN; OUTSIDE";
        PatternLoom l = new PatternLoom();
        int p = plain(l, 7);
        int[] sides = {1, 2, 11, 12};
        for (int w : sides) {
            for (int h : sides) {
                due("weave()", l.weave(p, 0, 0, w, h), w * h);
                due("count(1)", l.count(1), w * h);
                due("count(2)", l.count(2), w);
                for (int no : new int[] {MIN, -1, 0, 13, MAX}) {
                    due("w is " + no, l.weave(p, 0, 0, no, h), OUTSIDE);
                    due("h is " + no, l.weave(p, 0, 0, w, no), OUTSIDE);
                }
            }
        }
        due("no such one", l.weave(1, 0, 0, 1, 1), UNKNOWN);
        due("no such one", l.weave(-1, 0, 0, 1, 1), UNKNOWN);
    }

    private static void weavePlaces() {
        part = "of PLACES from x, y on (x + 0 .., and then y + 1 ..)";
        PatternLoom l = new PatternLoom();
        int place = l.pattern(BOTH, xOf(l), yOf(l), 100);
        due("weave()", l.weave(place, 5, 7, 3, 2), 6);
        dueCloth(l, 705, 706, 707, 805, 806, 807);
        due("weave()", l.weave(place, 5, 7, 2, 3), 6);
        dueCloth(l, 705, 706, 805, 806, 905, 906);
        due("weave()", l.weave(place, -1, -1, 2, 2), 4);
        dueCloth(l, -101, -100, -1, 0);
        due("weave()", l.weave(place, 0, 0, 12, 12), 144);
        due("cloth(11)", l.cloth(11), 11);
        due("cloth(12)", l.cloth(12), 100);
        due("cloth(143)", l.cloth(143), 1111);
        due("weave()", l.weave(place, 9, 8, 1, 1), 1);
        dueCloth(l, 809);
        due("weave() that wraps", l.weave(l.pattern(MOVED, place, MAX, MAX), MAX, MAX, 2, 2), 4);
        dueCloth(l, 0, 1, 100, 101);
    }

    private static void weaveFailsFirst() {
        part = "-10 less the FAILURE at the first that FAILS: THE CLOTH has those ahead of it (none)";
        for (int why : new int[] {ZERO, INDEX, MISSING, TIRED}) {
            PatternLoom l = new PatternLoom();
            int f = failing(l, why);
            l.weave(plain(l, 7), 0, 0, 12, 12);
            due("weave()", l.weave(f, 0, 0, 3, 2), why);
            dueCloth(l);
            due("cloth(143)", l.cloth(143), 0);
            due("changes()", l.changes(), 0);
            due("most()", l.most(), 0);
            due("count(2)", l.count(2), 3);
        }
    }

    private static void weaveFailsLater() {
        part = "-10 less the FAILURE at the first that FAILS: THE CLOTH has those ahead of it";
        PatternLoom l = new PatternLoom();
        int place = l.pattern(TWILL, 3, 500, 0);
        int zero = failing(l, ZERO);
        int index = failing(l, INDEX);
        l.weave(plain(l, 7), 0, 0, 12, 12);
        // of 3 rows of 3 that tell 0 .. 8, the one that tells n is the first that fails; later ones fail otherwise
        for (int n = 1; n <= 8; n++) {
            int later = l.pattern(WHERE, l.pattern(MOVED, place, n, 0), index, zero);
            int p = l.pattern(WHERE, l.pattern(MOVED, place, n - 1, 0), later, place);
            due("weave() up to " + n, l.weave(p, 0, 0, 3, 3), ZERO);
            due("count(1)", l.count(1), n);
            due("count(2)", l.count(2), 3);
            due("count(3), of the PLACE that fails", l.count(3), 7);
            due("the last", l.cloth(n - 1), n - 1);
            due("behind the last", l.cloth(n), 0);
        }
        due("a weave() that doesn't fail", l.weave(place, 0, 0, 3, 3), 9);
        dueCloth(l, 0, 1, 2, 3, 4, 5, 6, 7, 8);
    }

    private static void clothAnswers() {
        part = "COLOUR i of THE CLOTH, row by row; 0 if there is none such";
        PatternLoom l = new PatternLoom();
        for (int i : FAR) {
            due("no cloth, cloth(" + i + ")", l.cloth(i), 0);
        }
        int p = l.pattern(TWILL, 12, 500, 1);
        l.weave(p, 0, 0, 12, 12);
        for (int i = 0; i < 144; i++) {
            due("cloth(" + i + ")", l.cloth(i), i + 1);
        }
        for (int i : new int[] {-1, 144, 145, MIN, MAX}) {
            due("cloth(" + i + ")", l.cloth(i), 0);
        }
        l.weave(p, 0, 0, 2, 1);
        dueCloth(l, 1, 2);
        due("cloth(143) of the elder one", l.cloth(143), 0);
        due("cloth(-1)", l.cloth(-1), 0);
    }

    private static void changesAnswers() {
        part = "How many COLOURS of THE CLOTH are others than the one ahead of them in their row";
        PatternLoom l = new PatternLoom();
        due("no cloth", l.changes(), 0);
        int ones = l.pattern(STRIPES, MIN, MAX, 1);
        l.weave(ones, 0, 0, 1, 1);
        due("one colour", l.changes(), 0);
        l.weave(ones, 0, 0, 2, 1);
        due("two colours", l.changes(), 1);
        l.weave(ones, 0, 0, 12, 12);
        due("all that can be", l.changes(), 11 * 12);
        l.weave(plain(l, 3), 0, 0, 12, 12);
        due("none", l.changes(), 0);
        l.weave(ones, 0, 0, 4, 3);
        due("a row's first has none ahead", l.changes(), 9);
        l.weave(l.pattern(TWILL, 1, 500, 0), 0, 0, 1, 12);
        due("rows of one", l.changes(), 0);
        l.weave(l.pattern(STRIPES, 0, 1, 3), 0, 0, 3, 2);
        due("rows of one colour each", l.changes(), 0);
        // of DYE 0: 5 6 7, and the next fails; then of each row 0 1 2 up to the third row's second
        l.weave(l.pattern(OLD, 1, 0, 0), 5, 0, 12, 1);
        due("a row that isn't whole", l.changes(), 2);
        int place = l.pattern(TWILL, 3, 500, 0);
        l.weave(l.pattern(WHERE, l.pattern(MOVED, place, 7, 0), failing(l, ZERO), place), 0, 0, 3, 3);
        due("count(1)", l.count(1), 8);
        due("rows of which the last isn't whole", l.changes(), 5);
    }

    private static void mostAnswers() {
        part = "The COLOUR that is most often on THE CLOTH, of such the one that came first; 0: there is none";
        PatternLoom l = new PatternLoom();
        due("no cloth", l.most(), 0);
        int p = l.pattern(DYED, xOf(l), 1, 0);
        int[][] rows = {
            {5}, {5, 5}, {5, 6}, {6, 5}, {5, 6, 6}, {6, 5, 6}, {5, 6, 6, 5}, {6, 5, 5, 6}, {5, 6, 6, 7, 7},
            {1, 2, 3, 3, 2, 1, 4, 4}, {1, 2, 3, 4, 4, 3, 4, 3}, {MAX, MIN, MIN}, {0, 0, 1}, {1, 0, 0}, {-1, 0}, {0, -1},
            {1, 2, 3, 4, 5, 6, 7, 7},
        };
        int[] due = {5, 5, 5, 6, 6, 6, 5, 6, 6, 1, 3, MIN, 0, 0, -1, 0, 7};
        for (int r = 0; r < rows.length; r++) {
            for (int i = 0; i < rows[r].length; i++) {
                l.dye(1, i, rows[r][i]);
            }
            due("weave()", l.weave(p, 0, 0, rows[r].length, 1), rows[r].length);
            due("row " + r, l.most(), due[r]);
            // the same colours, each in a row of its own
            l.weave(l.pattern(TURNED, p, 0, 0), 0, 0, 1, rows[r].length);
            due("column " + r, l.most(), due[r]);
        }
        l.weave(l.pattern(TWILL, 12, 500, 1), 0, 0, 12, 12);
        due("144, each once", l.most(), 1);
        l.weave(failing(l, ZERO), 0, 0, 1, 1);
        due("a cloth of none", l.most(), 0);
    }

    private static void whyAnswers() {
        part = "What the latest call of dye(), ask() was refused by, or its FAILURE (-10 less it); 0";
        PatternLoom l = new PatternLoom();
        due("ahead of all", l.why(), 0);
        int seven = plain(l, 7);
        int[] failing = {failing(l, ZERO), failing(l, INDEX), failing(l, MISSING), failing(l, TIRED)};
        for (int i = 0; i < 4; i++) {
            l.ask(failing[i], 0, 0);
            due("ask() that fails", l.why(), -11 - i);
            l.weave(seven, 0, 0, 1, 1);
            l.weave(failing[3 - i], 0, 0, 1, 1);
            l.weave(99, 0, 0, 1, 1);
            l.pattern(14, 0, 0, 0);
            l.name(6, 0);
            l.name(2, seven);
            l.count(9);
            l.cloth(-1);
            due("other calls don't matter", l.why(), -11 - i);
            l.dye(0, 0, 0);
            due("dye()", l.why(), 0);
            l.ask(failing[i], 0, 0);
            l.ask(99, 0, 0);
            due("ask() that is refused", l.why(), UNKNOWN);
            l.ask(seven, 0, 0);
            due("ask()", l.why(), 0);
            l.dye(0, 8, 0);
            due("dye() that is refused", l.why(), UNKNOWN);
            due("and again", l.why(), UNKNOWN);
            l.weave(failing[i], 0, 0, 1, 1);
            due("weave() that fails", l.why(), UNKNOWN);
        }
    }

    private static void countAnswers() {
        part = "0 PATTERNS, 1 COLOURS of THE CLOTH, 2 its w, 3 PATTERNS asked, 4 how often a WORN one told c. OUTSIDE";
        PatternLoom l = new PatternLoom();
        for (int what : new int[] {MIN, -1, 5, MAX}) {
            due("count(" + what + ")", l.count(what), OUTSIDE);
        }
        int worn = l.pattern(WORN, plain(l, 7), 2, 8);
        l.weave(worn, 0, 0, 3, 2);
        int[] due = {2, 6, 3, 1, 3};
        for (int what = 0; what <= 4; what++) {
            due("count(" + what + ")", l.count(what), due[what]);
        }
        part = "3 PATTERNS asked for the latest PLACE of ask(), weave()";
        l.weave(worn, 0, 0, 1, 1);
        due("count(3), WORN and a", l.count(3), 2);
        l.weave(99, 0, 0, 1, 1);
        l.weave(0, 0, 0, 13, 1);
        l.ask(99, 0, 0);
        due("count(3) behind refused ones", l.count(3), 2);
        l.ask(worn, 0, 0);
        due("count(3), WORN alone", l.count(3), 1);
        int x = xOf(l);
        int where = l.pattern(WHERE, x, failing(l, ZERO), l.pattern(MOVED, l.pattern(MOVED, x, 0, 0), 0, 0));
        l.weave(where, -3, 0, 12, 1);
        due("count(1)", l.count(1), 4);
        due("count(3) of the PLACE that fails", l.count(3), 3);
        l.weave(where, -3, 0, 4, 1);
        due("count(3) of the last PLACE", l.count(3), 5);
        part = "4 how often a WORN one told c, ever";
        due("count(4)", l.count(4), 4);
        int failsAfter = l.pattern(BOTH, l.pattern(WORN, x, 1, 1), failing(l, ZERO), 1);
        l.ask(failsAfter, 0, 0);
        due("count(4), told for a PLACE that fails", l.count(4), 5);
        l.weave(failsAfter, 0, 0, 5, 5);
        due("count(4)", l.count(4), 6);
    }
}
