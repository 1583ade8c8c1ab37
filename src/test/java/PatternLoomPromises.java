/** What the document promises, promise by promise, on fresh objects. */
public final class PatternLoomPromises extends LoomTest {
    public static void main(String[] args) {
        newObject();
        dye();
        patternNumbersAndRefusals();
        patternRefusalOrder();
        patternLooksOnlyAtWhatItHas();
        patternFull();
        plainStripesTwill();
        movedAndTurned();
        overAndWhere();
        dyedAndFast();
        namedAndOld();
        worn();
        both();
        safe();
        safeTwentyTimes();
        tired();
        tiredAtTheEdge();
        name();
        ask();
        weave();
        weaveRefused();
        weaveFails();
        cloth();
        changes();
        most();
        why();
        count();
        end("all promises hold");
    }

    private static void newObject() {
        part = "1 a new object";
        PatternLoom l = new PatternLoom();
        for (int what = 0; what <= 4; what++) {
            due("count(" + what + ")", l.count(what), 0);
        }
        due("why()", l.why(), 0);
        due("changes()", l.changes(), 0);
        due("most()", l.most(), 0);
        due("cloth(0)", l.cloth(0), 0);
        for (int n = 0; n < 6; n++) {
            due("pattern(OLD, n)", l.pattern(OLD, n, 0, 0), n);
        }
        dueAsk(l, 0, 3, 4, 1);
        dueAsk(l, 0, -3, 0, -1);
        dueAsk(l, 0, MAX, 1, 0);
        dueAsk(l, 0, MAX, 2, -1);
        dueAsk(l, 1, 0, 5, 5);
        dueAsk(l, 1, 7, -10, -3);
        dueAsk(l, 1, 7, MAX, MIN + 6);
        dueFails(l, 1, 8, 0, INDEX);
        dueFails(l, 1, -1, 0, INDEX);
        dueFails(l, 1, MIN, 0, INDEX);
        for (int n = 2; n < 6; n++) {
            dueFails(l, n, 0, 0, MISSING);
        }
        for (int d = 0; d < 4; d++) {
            for (int i = 0; i < 8; i++) {
                due("dye at first", l.dye(d, i, 0), i);
            }
        }
        PatternLoom other = new PatternLoom();
        due("another object's patterns", other.count(0), 0);
        due("another object's dyes", other.dye(0, 5, 0), 5);
    }

    private static void dye() {
        part = "2 dye";
        PatternLoom l = new PatternLoom();
        l.pattern(OLD, 1, 0, 0);
        due("dye(3, 7, MIN)", l.dye(3, 7, MIN), 7);
        due("dye(3, 7, 4)", l.dye(3, 7, 4), MIN);
        due("dye(2, 7, 1)", l.dye(2, 7, 1), 7);
        due("dye(0, 2, 40)", l.dye(0, 2, 40), 2);
        dueAsk(l, 0, 2, 2, 42);
        dueAsk(l, 0, 3, 2, 5);
        int[][] none = {{-1, 0}, {4, 0}, {0, -1}, {0, 8}, {MIN, MIN}, {MAX, MAX}};
        for (int[] at : none) {
            dueAsk(l, 0, 0, 0, 0);
            due("dye(" + at[0] + ", " + at[1] + ")", l.dye(at[0], at[1], 9), 0);
            due("why()", l.why(), PatternLoom.UNKNOWN);
        }
        due("dye(0, 0, 0)", l.dye(0, 0, 0), 0);
        due("why()", l.why(), 0);
        due("dye(3, 7, 0)", l.dye(3, 7, 0), 4);
    }

    private static void patternNumbersAndRefusals() {
        part = "3 pattern, refusals";
        PatternLoom l = new PatternLoom();
        for (int sort : new int[] {-1, 14, 15, MIN, MAX}) {
            due("pattern(" + sort + ")", l.pattern(sort, 0, 0, 0), PatternLoom.OUTSIDE);
        }
        for (int sort : new int[] {MOVED, TURNED, OVER, WHERE, DYED, FAST, WORN, BOTH, SAFE}) {
            due("pattern(" + sort + ") of none", l.pattern(sort, 0, 1, 0), PatternLoom.UNKNOWN);
        }
        due("the first", l.pattern(PLAIN, 7, 0, 0), 0);
        for (int sort : new int[] {MOVED, TURNED, OVER, WHERE, DYED, FAST, WORN, BOTH, SAFE}) {
            due("pattern(" + sort + ") of itself", l.pattern(sort, 1, 0, 0), PatternLoom.UNKNOWN);
            due("pattern(" + sort + ") of -1", l.pattern(sort, -1, 0, 0), PatternLoom.UNKNOWN);
        }
        for (int sort : new int[] {OVER, WHERE, BOTH}) {
            due("pattern(" + sort + ") b", l.pattern(sort, 0, 1, 0), PatternLoom.UNKNOWN);
            due("pattern(" + sort + ") b", l.pattern(sort, 0, -1, 0), PatternLoom.UNKNOWN);
        }
        due("pattern(WHERE) c", l.pattern(WHERE, 0, 0, 1), PatternLoom.UNKNOWN);
        due("pattern(WHERE) c", l.pattern(WHERE, 0, 0, -1), PatternLoom.UNKNOWN);
        for (int sort : new int[] {DYED, FAST}) {
            due("pattern(" + sort + ") b", l.pattern(sort, 0, -1, 0), PatternLoom.UNKNOWN);
            due("pattern(" + sort + ") b", l.pattern(sort, 0, 4, 0), PatternLoom.UNKNOWN);
        }
        for (int sort : new int[] {NAMED, OLD}) {
            due("pattern(" + sort + ") a", l.pattern(sort, -1, 0, 0), PatternLoom.UNKNOWN);
            due("pattern(" + sort + ") a", l.pattern(sort, 6, 0, 0), PatternLoom.UNKNOWN);
        }
        int[][] outside = {{TURNED, -1}, {TURNED, 4}, {WORN, 0}, {WORN, 51}, {WORN, -1}, {SAFE, -1}, {SAFE, 4}};
        for (int[] s : outside) {
            due("pattern(" + s[0] + ", 0, " + s[1] + ")", l.pattern(s[0], 0, s[1], 0), PatternLoom.OUTSIDE);
        }
        due("count(0)", l.count(0), 1);
        int[][] inside = {{TURNED, 0}, {TURNED, 3}, {WORN, 1}, {WORN, 50}, {SAFE, 0}, {SAFE, 3}, {DYED, 3}, {FAST, 3}};
        for (int i = 0; i < inside.length; i++) {
            due("pattern(" + inside[i][0] + ", 0, " + inside[i][1] + ")", l.pattern(inside[i][0], 0, inside[i][1], 0), i + 1);
        }
    }

    private static void patternRefusalOrder() {
        part = "3 pattern, the order of refusals";
        PatternLoom l = new PatternLoom();
        due("UNKNOWN ahead of OUTSIDE", l.pattern(TURNED, 0, 9, 0), PatternLoom.UNKNOWN);
        due("UNKNOWN ahead of OUTSIDE", l.pattern(WORN, 0, 0, 0), PatternLoom.UNKNOWN);
        due("UNKNOWN ahead of OUTSIDE", l.pattern(SAFE, 0, 9, 0), PatternLoom.UNKNOWN);
        for (int i = 0; i < 60; i++) {
            l.pattern(PLAIN, i, 0, 0);
        }
        due("OUTSIDE ahead of FULL", l.pattern(14, 0, 0, 0), PatternLoom.OUTSIDE);
        due("UNKNOWN ahead of FULL", l.pattern(MOVED, 60, 0, 0), PatternLoom.UNKNOWN);
        due("OUTSIDE ahead of FULL", l.pattern(WORN, 0, 0, 0), PatternLoom.OUTSIDE);
        due("FULL", l.pattern(WORN, 0, 1, 0), PatternLoom.FULL);
    }

    private static void patternLooksOnlyAtWhatItHas() {
        part = "3 pattern, what a sort has not";
        PatternLoom l = new PatternLoom();
        due("PLAIN", l.pattern(PLAIN, -9, 99, 99), 0);
        due("STRIPES", l.pattern(STRIPES, 99, -99, 0), 1);
        due("TWILL", l.pattern(TWILL, 99, 0, 99), 2);
        due("MOVED", l.pattern(MOVED, 0, 99, -99), 3);
        due("TURNED", l.pattern(TURNED, 0, 0, 99), 4);
        due("OVER", l.pattern(OVER, 0, 0, -99), 5);
        due("DYED", l.pattern(DYED, 0, 0, 99), 6);
        due("FAST", l.pattern(FAST, 0, 0, 99), 7);
        due("NAMED", l.pattern(NAMED, 5, -99, 99), 8);
        due("WORN", l.pattern(WORN, 0, 1, 99), 9);
        due("BOTH", l.pattern(BOTH, 0, 0, -99), 10);
        due("SAFE", l.pattern(SAFE, 0, 0, 99), 11);
        due("OLD", l.pattern(OLD, 5, 99, 99), 12);
    }

    private static void patternFull() {
        part = "3 pattern, FULL";
        PatternLoom l = new PatternLoom();
        for (int i = 0; i < 60; i++) {
            due("pattern()", l.pattern(PLAIN, 100 + i, 0, 0), i);
        }
        due("the 61st", l.pattern(PLAIN, 0, 0, 0), PatternLoom.FULL);
        due("count(0)", l.count(0), 60);
        dueAsk(l, 59, 0, 0, 159);
        dueFails(l, 60, 0, 0, PatternLoom.UNKNOWN);
    }

    private static void plainStripesTwill() {
        part = "3 PLAIN, STRIPES, TWILL";
        PatternLoom l = new PatternLoom();
        l.pattern(PLAIN, MIN, 1, 2);
        dueAsk(l, 0, 5, 6, MIN);
        l.pattern(STRIPES, 10, 20, 3);
        int[] stripes = {20, 20, 20, 10, 10, 10, 10, 10, 20, 20, 20, 10};
        for (int i = 0; i < stripes.length; i++) {
            dueAsk(l, 1, i - 5, 77, stripes[i]);
        }
        l.pattern(STRIPES, 10, 20, -1);
        dueAsk(l, 2, MIN, 0, 10);
        dueAsk(l, 2, MAX, 0, 20);
        l.pattern(STRIPES, 10, 20, 0);
        dueFails(l, 3, 0, 0, ZERO);
        l.pattern(TWILL, 3, 5, 100);
        dueAsk(l, 4, 1, 2, 102);
        dueAsk(l, 4, -1, -2, 98);
        dueAsk(l, 4, MAX, 1, 99);
        l.pattern(TWILL, 1, 0, 100);
        dueFails(l, 5, 1, 2, ZERO);
        l.pattern(TWILL, 1, -1, MAX);
        dueAsk(l, 6, MIN, 0, MAX);
        l.pattern(TWILL, 0, 10, MAX);
        dueAsk(l, 7, 9, 0, MIN + 8);
        l.pattern(TWILL, MAX, 7, 0);
        dueAsk(l, 8, 0, 3, (MAX - 2) % 7);
    }

    /** A pattern that tells 1000 x + y, so that a test can see where it was asked. */
    private static int placeTeller(PatternLoom l) {
        int x = l.pattern(TWILL, 0, 500, 0);
        int turned = l.pattern(TURNED, x, 0, 0);
        return l.pattern(BOTH, turned, x, 1000);
    }

    private static void movedAndTurned() {
        part = "3 MOVED, TURNED";
        PatternLoom l = new PatternLoom();
        int place = placeTeller(l);
        dueAsk(l, place, 3, 4, 3004);
        dueAsk(l, l.pattern(MOVED, place, 1, -2), 3, 4, 2006);
        dueAsk(l, l.pattern(MOVED, place, MIN, 0), MIN, 4, 4);
        dueAsk(l, l.pattern(TURNED, place, 0, 0), 3, 4, 4003);
        dueAsk(l, l.pattern(TURNED, place, 1, 0), 3, 4, -2996);
        dueAsk(l, l.pattern(TURNED, place, 2, 0), 3, 4, 2996);
        int product = l.pattern(TURNED, place, 3, 0);
        dueAsk(l, product, 3, 4, 12007);
        dueAsk(l, product, 65536, 65536, 131072 % 500);
        dueAsk(l, l.pattern(TURNED, l.pattern(TWILL, 0, MAX, 0), 1, 0), MIN, 0, -1);
        int zero = l.pattern(STRIPES, 0, 0, 0);
        dueFails(l, l.pattern(MOVED, zero, 0, 0), 0, 0, ZERO);
        dueFails(l, l.pattern(TURNED, zero, 0, 0), 0, 0, ZERO);
    }

    private static void overAndWhere() {
        part = "3 OVER, WHERE";
        PatternLoom l = new PatternLoom();
        int x = l.pattern(TWILL, 0, 500, 0);
        int zero = l.pattern(STRIPES, 0, 0, 0);
        int index = l.pattern(OLD, 1, 0, 0);
        int seven = l.pattern(PLAIN, 7, 0, 0);
        int eight = l.pattern(PLAIN, 8, 0, 0);
        int over = l.pattern(OVER, x, seven, 0);
        dueAsk(l, over, -2, 0, -2);
        due("count(3)", l.count(3), 2);
        dueAsk(l, over, 0, 0, 7);
        due("count(3)", l.count(3), 3);
        int overZero = l.pattern(OVER, x, zero, 0);
        dueAsk(l, overZero, 1, 0, 1);
        dueFails(l, overZero, 0, 0, ZERO);
        dueFails(l, l.pattern(OVER, index, zero, 0), 8, 0, INDEX);
        due("count(3)", l.count(3), 3);
        int where = l.pattern(WHERE, x, seven, eight);
        dueAsk(l, where, 1, 0, 7);
        dueAsk(l, where, 0, 0, 8);
        dueAsk(l, where, -1, 0, 8);
        due("count(3)", l.count(3), 3);
        int whereZero = l.pattern(WHERE, x, zero, index);
        dueFails(l, whereZero, 9, 0, ZERO);
        dueFails(l, whereZero, -9, 0, INDEX);
        dueAsk(l, whereZero, 0, 3, 3);
        dueFails(l, l.pattern(WHERE, zero, seven, eight), 0, 0, ZERO);
        due("count(3)", l.count(3), 2);
    }

    private static void dyedAndFast() {
        part = "3 DYED, FAST";
        PatternLoom l = new PatternLoom();
        int x = l.pattern(TWILL, 0, 500, 0);
        l.dye(2, 5, 50);
        int dyed = l.pattern(DYED, x, 2, 0);
        int fast = l.pattern(FAST, x, 2, 0);
        dueAsk(l, dyed, 5, 0, 50);
        dueAsk(l, fast, 5, 0, 50);
        l.dye(2, 5, 51);
        l.dye(1, 5, 52);
        dueAsk(l, dyed, 5, 0, 51);
        dueAsk(l, fast, 5, 0, 50);
        dueAsk(l, l.pattern(FAST, x, 2, 0), 5, 0, 51);
        for (int p : new int[] {dyed, fast}) {
            dueAsk(l, p, 7, 0, 7);
            dueAsk(l, p, 0, 0, 0);
            dueFails(l, p, 8, 0, INDEX);
            dueFails(l, p, -1, 0, INDEX);
        }
        int zero = l.pattern(STRIPES, 0, 0, 0);
        dueFails(l, l.pattern(DYED, zero, 0, 0), 0, 0, ZERO);
        dueFails(l, l.pattern(FAST, zero, 0, 0), 0, 0, ZERO);
        int missingPlus = l.pattern(NAMED, 4, 99, 0);
        dueFails(l, l.pattern(DYED, missingPlus, 0, 0), 0, 0, MISSING);
    }

    private static void namedAndOld() {
        part = "3 NAMED, OLD";
        PatternLoom l = new PatternLoom();
        int seven = l.pattern(PLAIN, 7, 0, 0);
        int eight = l.pattern(PLAIN, 8, 0, 0);
        int named = l.pattern(NAMED, 3, 100, 0);
        int oldNone = l.pattern(OLD, 3, 0, 0);
        dueFails(l, named, 0, 0, MISSING);
        due("count(3)", l.count(3), 2);
        dueFails(l, oldNone, 0, 0, MISSING);
        due("count(3)", l.count(3), 2);
        l.name(3, seven);
        int oldSeven = l.pattern(OLD, 3, 55, 0);
        dueAsk(l, named, 0, 0, 107);
        dueFails(l, oldNone, 0, 0, MISSING);
        dueAsk(l, oldSeven, 0, 0, 7);
        due("count(3)", l.count(3), 2);
        l.name(3, eight);
        dueAsk(l, named, 0, 0, 108);
        dueAsk(l, oldSeven, 0, 0, 7);
        l.name(3, PatternLoom.NONE);
        dueFails(l, named, 0, 0, MISSING);
        dueAsk(l, oldSeven, 0, 0, 7);
        dueAsk(l, l.pattern(NAMED, 0, 10, 0), 1, 0, 11);
        due("count(3)", l.count(3), 2);
        int seam = l.pattern(NAMED, 1, 10, 0);
        dueAsk(l, seam, 1, 1, 12);
        dueFails(l, seam, 8, 1, INDEX);
        due("count(3)", l.count(3), 2);
        l.name(3, l.pattern(PLAIN, MAX, 0, 0));
        dueAsk(l, named, 0, 0, MIN + 99);
    }

    private static void worn() {
        part = "3 WORN";
        PatternLoom l = new PatternLoom();
        int seven = l.pattern(PLAIN, 7, 0, 0);
        int third = l.pattern(WORN, seven, 3, -5);
        for (int i = 1; i <= 9; i++) {
            dueAsk(l, third, i, i, i % 3 == 0 ? -5 : 7);
            due("count(3)", l.count(3), i % 3 == 0 ? 1 : 2);
            due("count(4)", l.count(4), i / 3);
        }
        int other = l.pattern(WORN, seven, 3, -6);
        dueAsk(l, other, 0, 0, 7);
        dueAsk(l, third, 0, 0, 7);
        dueAsk(l, other, 0, 0, 7);
        dueAsk(l, other, 0, 0, -6);
        due("count(4)", l.count(4), 4);
        int zero = l.pattern(STRIPES, 0, 0, 0);
        int failing = l.pattern(WORN, zero, 2, 9);
        dueFails(l, failing, 0, 0, ZERO);
        dueAsk(l, failing, 0, 0, 9);
        dueFails(l, failing, 0, 0, ZERO);
        int always = l.pattern(WORN, zero, 1, 9);
        dueAsk(l, always, 0, 0, 9);
        dueAsk(l, always, 0, 0, 9);
        int twice = l.pattern(WORN, seven, 2, 1);
        dueAsk(l, l.pattern(BOTH, twice, twice, 10), 0, 0, 17);
        int fifty = l.pattern(WORN, seven, 50, 1);
        due("weave", l.weave(fifty, 0, 0, 7, 7), 49);
        due("changes()", l.changes(), 0);
        dueAsk(l, fifty, 0, 0, 1);

        PatternLoom loop = new PatternLoom();
        int again = loop.pattern(NAMED, 2, 1, 0);
        loop.name(2, loop.pattern(WORN, again, 4, 10));
        dueAsk(loop, again, 0, 0, 14);
        due("count(3)", loop.count(3), 8);
        due("count(4)", loop.count(4), 1);
    }

    private static void both() {
        part = "3 BOTH";
        PatternLoom l = new PatternLoom();
        int x = l.pattern(TWILL, 0, 500, 0);
        int seven = l.pattern(PLAIN, 7, 0, 0);
        int zero = l.pattern(STRIPES, 0, 0, 0);
        int index = l.pattern(OLD, 1, 0, 0);
        dueAsk(l, l.pattern(BOTH, x, seven, 10), 2, 0, 72);
        dueAsk(l, l.pattern(BOTH, x, seven, -1), 2, 0, -5);
        dueAsk(l, l.pattern(BOTH, x, seven, MAX), 2, 0, MAX - 4);
        dueFails(l, l.pattern(BOTH, x, zero, 0), 0, 0, ZERO);
        due("count(3)", l.count(3), 3);
        dueFails(l, l.pattern(BOTH, zero, index, 0), 9, 0, ZERO);
        due("count(3)", l.count(3), 2);
        dueFails(l, l.pattern(BOTH, index, zero, 0), 9, 0, INDEX);
    }

    private static void safe() {
        part = "3 SAFE";
        PatternLoom l = new PatternLoom();
        int[] failing = {l.pattern(STRIPES, 0, 0, 0), l.pattern(OLD, 1, 0, 0), l.pattern(OLD, 2, 0, 0)};
        for (int f = 0; f < 3; f++) {
            for (int b = 0; b <= 3; b++) {
                int safe = l.pattern(SAFE, failing[f], b, 66);
                if (b == 0 || b == f + 1) {
                    dueAsk(l, safe, 9, 0, 66);
                } else {
                    dueFails(l, safe, 9, 0, ZERO - f);
                }
            }
        }
        dueAsk(l, l.pattern(SAFE, failing[1], 2, 66), 3, 0, 3);
        int inner = l.pattern(SAFE, failing[0], 2, 1);
        dueAsk(l, l.pattern(SAFE, inner, 1, 2), 0, 0, 2);
        int safe = l.pattern(SAFE, failing[0], 0, 0);
        int seven = l.pattern(PLAIN, 7, 0, 0);
        dueAsk(l, l.pattern(OVER, safe, seven, 0), 0, 0, 7);
        due("count(3)", l.count(3), 4);
    }

    private static void safeTwentyTimes() {
        part = "3 SAFE, 20 times";
        PatternLoom l = new PatternLoom();
        int zero = l.pattern(STRIPES, 0, 0, 0);
        int one = l.pattern(SAFE, zero, 0, 1);
        int two = l.pattern(SAFE, zero, 1, 2);
        int both = l.pattern(BOTH, one, two, 10);
        due("weave of 10", l.weave(both, 0, 0, 10, 1), 10);
        due("weave of 11", l.weave(both, 0, 0, 11, 1), ZERO);
        due("count(1)", l.count(1), 10);
        due("weave of 20", l.weave(one, 0, 0, 10, 2), 20);
        due("weave of 21", l.weave(one, 0, 0, 7, 3), ZERO);
        due("count(1)", l.count(1), 20);
        dueAsk(l, both, 0, 0, 21);

        // one, told twice by each of those above it: 2, 4, 8, 16, and 4 more are 20
        int four = l.pattern(BOTH, l.pattern(BOTH, one, one, 1), l.pattern(BOTH, one, one, 1), 1);
        int sixteen = l.pattern(BOTH, l.pattern(BOTH, four, four, 1), l.pattern(BOTH, four, four, 1), 1);
        int twenty = l.pattern(BOTH, sixteen, four, 1);
        dueAsk(l, twenty, 0, 0, 20);
        due("count(3)", l.count(3), 59);
        dueAsk(l, twenty, 0, 0, 20);
        dueFails(l, l.pattern(BOTH, twenty, one, 1), 0, 0, ZERO);
        dueFails(l, l.pattern(BOTH, twenty, l.pattern(SAFE, one, 0, 0), 0), 0, 0, ZERO);
    }

    private static void tired() {
        part = "3 TIRED";
        PatternLoom l = new PatternLoom();
        int loop = l.pattern(NAMED, 5, 1, 0);
        l.name(5, loop);
        dueFails(l, loop, 0, 0, TIRED);
        due("count(3)", l.count(3), 100);
        for (int b = 0; b <= 3; b++) {
            dueFails(l, l.pattern(SAFE, loop, b, 0), 0, 0, TIRED);
            due("count(3)", l.count(3), 100);
        }
        due("weave", l.weave(loop, 0, 0, 3, 3), TIRED);
        int seven = l.pattern(PLAIN, 7, 0, 0);
        dueFails(l, l.pattern(OVER, loop, seven, 0), 0, 0, TIRED);
        dueFails(l, l.pattern(DYED, loop, 0, 0), 0, 0, TIRED);
        l.name(5, seven);
        dueAsk(l, loop, 0, 0, 8);
        due("count(3)", l.count(3), 2);

        PatternLoom deep = new PatternLoom();
        int twice = deep.pattern(PLAIN, 1, 0, 0);
        for (int i = 0; i < 59; i++) {
            twice = deep.pattern(BOTH, twice, twice, 1);
        }
        dueFails(deep, twice, 0, 0, TIRED);
        due("count(3)", deep.count(3), 100);
    }

    /** A chain of patterns that ends in a name: the last one asked is the 100th, or would be the 101st. */
    private static void tiredAtTheEdge() {
        part = "3 TIRED at the edge";
        PatternLoom l = new PatternLoom();
        int end = l.pattern(NAMED, 2, 0, 0);
        int chain = end;
        for (int i = 0; i < 48; i++) {
            chain = l.pattern(MOVED, chain, 0, 0);
        }
        // the chain asks 49 of its own and one that the name has
        int two = l.pattern(BOTH, chain, chain, 1);
        int seven = l.pattern(PLAIN, 7, 0, 0);
        l.name(2, seven);
        dueFails(l, two, 0, 0, TIRED);
        int shorter = chain - 1;
        int edge = l.pattern(BOTH, shorter, chain, 1);
        dueAsk(l, edge, 0, 0, 14);
        due("count(3)", l.count(3), 100);
        int safeEnd = l.pattern(SAFE, chain, 0, 3);
        l.name(2, PatternLoom.NONE);
        int shorterSafe = l.pattern(SAFE, shorter - 1, 3, 4);
        int edgeOfMissing = l.pattern(BOTH, shorterSafe, chain, 1);
        dueFails(l, edgeOfMissing, 0, 0, MISSING);
        due("count(3)", l.count(3), 100);
        dueFails(l, l.pattern(BOTH, shorterSafe, safeEnd, 1), 0, 0, TIRED);
        due("count(3)", l.count(3), 100);
        dueAsk(l, safeEnd, 0, 0, 3);
        due("count(3)", l.count(3), 51);
        // a WORN one that would be the 101st isn't asked, so it doesn't wear
        int worn = l.pattern(WORN, seven, 2, 9);
        l.name(2, worn);
        dueFails(l, two, 0, 0, TIRED);
        dueAsk(l, worn, 0, 0, 9);
        due("count(4)", l.count(4), 1);
    }

    private static void name() {
        part = "4 name";
        PatternLoom l = new PatternLoom();
        due("name(0, 0) of no pattern", l.name(0, 0), PatternLoom.UNKNOWN);
        int seven = l.pattern(PLAIN, 7, 0, 0);
        int named = l.pattern(NAMED, 0, 0, 0);
        for (int n : new int[] {-1, 6, MIN, MAX}) {
            due("name(" + n + ", 0)", l.name(n, seven), PatternLoom.UNKNOWN);
        }
        for (int p : new int[] {-2, 2, MIN, MAX}) {
            due("name(0, " + p + ")", l.name(0, p), PatternLoom.UNKNOWN);
        }
        due("name(9, NONE)", l.name(9, PatternLoom.NONE), PatternLoom.UNKNOWN);
        dueAsk(l, named, 1, 0, 1);
        due("name(0, seven)", l.name(0, seven), 1);
        dueAsk(l, named, 1, 0, 7);
        due("name(1, NONE)", l.name(1, PatternLoom.NONE), 1);
        due("name(1, NONE)", l.name(1, PatternLoom.NONE), 0);
        due("name(1, seven)", l.name(1, seven), 0);
        due("name(1, seven)", l.name(1, seven), 1);
        for (int n = 2; n < 6; n++) {
            due("name(" + n + ")", l.name(n, named), 0);
            due("name(" + n + ")", l.name(n, seven), 1);
        }
        due("why()", l.why(), 0);
        l.ask(-1, 0, 0);
        l.name(9, 0);
        l.name(0, 0);
        due("why() isn't of name()", l.why(), PatternLoom.UNKNOWN);
    }

    private static void ask() {
        part = "5 ask";
        PatternLoom l = new PatternLoom();
        dueFails(l, 0, 0, 0, PatternLoom.UNKNOWN);
        int five = l.pattern(MOVED, l.pattern(PLAIN, 5, 0, 0), 1, 1);
        dueAsk(l, five, MIN, MAX, 5);
        for (int p : new int[] {-1, 2, MIN, MAX}) {
            dueFails(l, p, 0, 0, PatternLoom.UNKNOWN);
            due("count(3) is of the latest that wasn't refused", l.count(3), 2);
        }
        due("count(1)", l.count(1), 0);
        int zero = l.pattern(STRIPES, 9, 9, 0);
        dueFails(l, zero, 0, 0, ZERO);
        due("count(3)", l.count(3), 1);
        dueFails(l, l.pattern(NAMED, 2, 9, 0), 0, 0, MISSING);
    }

    private static void weave() {
        part = "6 weave";
        PatternLoom l = new PatternLoom();
        int place = placeTeller(l);
        due("weave", l.weave(place, 3, -1, 3, 2), 6);
        dueCloth(l, 2999, 3999, 4999, 3000, 4000, 5000);
        due("count(2)", l.count(2), 3);
        due("count(3)", l.count(3), 4);
        due("weave", l.weave(place, 0, 0, 1, 12), 12);
        dueCloth(l, 0, 1, 2, 3, 4, 5, 6, 7, 8, 9, 10, 11);
        due("weave", l.weave(place, 1, 0, 12, 1), 12);
        due("cloth(11)", l.cloth(11), 12000);
        due("weave", l.weave(place, 0, 0, 12, 12), 144);
        due("cloth(143)", l.cloth(143), 11011);
        due("weave", l.weave(place, 9, 9, 1, 1), 1);
        dueCloth(l, 9009);
        due("weave that wraps", l.weave(place, MAX, MAX, 2, 2), 4);
        int last = MAX % 500;
        dueCloth(l, 1000 * last + last, -1000 * (last + 1) + last, 1000 * last - last - 1, -1001 * (last + 1));
        due("why()", l.why(), 0);
    }

    private static void weaveRefused() {
        part = "6 weave, refused";
        PatternLoom l = new PatternLoom();
        due("weave of none", l.weave(0, 0, 0, 1, 1), PatternLoom.UNKNOWN);
        int seven = l.pattern(PLAIN, 7, 0, 0);
        int moved = l.pattern(MOVED, seven, 0, 0);
        l.weave(moved, 0, 0, 2, 1);
        l.ask(seven, 0, 0);
        for (int side : new int[] {0, 13, -1, MIN, MAX}) {
            due("weave w", l.weave(seven, 0, 0, side, 1), PatternLoom.OUTSIDE);
            due("weave h", l.weave(seven, 0, 0, 1, side), PatternLoom.OUTSIDE);
            due("UNKNOWN ahead of OUTSIDE", l.weave(2, 0, 0, side, side), PatternLoom.UNKNOWN);
        }
        due("weave of -1", l.weave(-1, 0, 0, 1, 1), PatternLoom.UNKNOWN);
        due("why() isn't of weave()", l.why(), 0);
        dueCloth(l, 7, 7);
        due("count(2)", l.count(2), 2);
        due("count(3)", l.count(3), 1);
    }

    private static void weaveFails() {
        part = "6 weave, fails";
        PatternLoom l = new PatternLoom();
        int seam = l.pattern(OLD, 1, 0, 0);
        due("weave", l.weave(seam, 6, 10, 3, 2), INDEX);
        dueCloth(l, 16, 17);
        due("count(2)", l.count(2), 3);
        due("count(3)", l.count(3), 2);
        due("weave", l.weave(seam, 8, 0, 4, 4), INDEX);
        dueCloth(l);
        due("count(2)", l.count(2), 4);
        due("changes()", l.changes(), 0);
        due("most()", l.most(), 0);
        int zero = l.pattern(STRIPES, 0, 0, 0);
        int row = l.pattern(TURNED, l.pattern(WHERE, l.pattern(TWILL, 0, 500, 0), zero, seam), 0, 0);
        due("weave", l.weave(row, 0, 0, 3, 3), ZERO);
        dueCloth(l, 0, 1, 2);
        int below = l.pattern(TWILL, 1, 500, 0);
        due("weave", l.weave(l.pattern(WHERE, l.pattern(MOVED, below, 3, 0), zero, below), 0, 0, 3, 3), ZERO);
        dueCloth(l, 0, 1, 2, 1, 2, 3, 2, 3);
        due("weave", l.weave(l.pattern(NAMED, 3, 0, 0), 0, 0, 1, 1), MISSING);
        due("why() isn't of weave()", l.why(), 0);
    }

    private static void cloth() {
        part = "7 cloth";
        PatternLoom l = new PatternLoom();
        int x = l.pattern(TWILL, 10, 500, 5);
        l.weave(x, 0, 0, 3, 3);
        dueCloth(l, 5, 6, 7, 15, 16, 17, 25, 26, 27);
        for (int i : new int[] {-1, 9, 143, 144, MIN, MAX}) {
            due("cloth(" + i + ")", l.cloth(i), 0);
        }
        l.weave(x, 1, 0, 1, 2);
        dueCloth(l, 6, 16);
        due("cloth(2)", l.cloth(2), 0);
    }

    private static void changes() {
        part = "8 changes";
        PatternLoom l = new PatternLoom();
        int stripes = l.pattern(STRIPES, 1, 2, 1);
        int wide = l.pattern(STRIPES, 1, 2, 2);
        l.weave(stripes, 0, 0, 4, 2);
        due("only in a row", l.changes(), 6);
        l.weave(wide, 1, 0, 4, 3);
        due("changes()", l.changes(), 6);
        l.weave(stripes, 0, 0, 1, 12);
        due("rows of one", l.changes(), 0);
        l.weave(l.pattern(TURNED, stripes, 0, 0), 0, 0, 5, 5);
        due("rows of one colour", l.changes(), 0);
        l.weave(l.pattern(OLD, 1, 0, 0), 5, 0, 4, 4);
        due("of a cloth that failed", l.changes(), 2);
        l.weave(stripes, 0, 0, 12, 12);
        due("changes()", l.changes(), 132);
    }

    private static void most() {
        part = "9 most";
        PatternLoom l = new PatternLoom();
        int x = l.pattern(TWILL, 0, 500, 0);
        int dyed = l.pattern(DYED, x, 1, 0);
        int[] row = {3, -4, 9, -4, 9, 3, 5, 9};
        for (int i = 0; i < row.length; i++) {
            l.dye(1, i, row[i]);
        }
        l.weave(dyed, 0, 0, 8, 1);
        due("9, three times", l.most(), 9);
        l.weave(dyed, 0, 0, 7, 1);
        due("3, -4, 9, twice each", l.most(), 3);
        l.weave(dyed, 1, 0, 6, 1);
        due("-4, 9, twice each", l.most(), -4);
        l.weave(dyed, 2, 0, 2, 1);
        due("each once", l.most(), 9);
        l.weave(dyed, 2, 0, 12, 1);
        due("of a cloth that failed", l.most(), 9);
        l.weave(dyed, 2, 0, 1, 12);
        due("one colour", l.most(), 9);
        l.weave(l.pattern(PLAIN, 0, 0, 0), 0, 0, 2, 2);
        due("0", l.most(), 0);
        l.weave(dyed, 8, 0, 1, 1);
        due("none", l.most(), 0);
    }

    private static void why() {
        part = "10 why";
        PatternLoom l = new PatternLoom();
        due("why()", l.why(), 0);
        l.dye(9, 0, 0);
        due("refused dye()", l.why(), PatternLoom.UNKNOWN);
        due("why() again", l.why(), PatternLoom.UNKNOWN);
        l.dye(0, 0, 0);
        due("dye()", l.why(), 0);
        l.ask(0, 0, 0);
        due("refused ask()", l.why(), PatternLoom.UNKNOWN);
        l.dye(0, 0, 0);
        due("dye()", l.why(), 0);
        int zero = l.pattern(STRIPES, 0, 0, 0);
        l.ask(zero, 0, 0);
        due("ask() that fails", l.why(), ZERO);
        int seven = l.pattern(PLAIN, 7, 0, 0);
        l.pattern(99, 0, 0, 0);
        l.name(9, 9);
        l.name(2, seven);
        l.weave(seven, 0, 0, 1, 1);
        l.weave(9, 0, 0, 1, 1);
        l.weave(l.pattern(OLD, 3, 0, 0), 0, 0, 1, 1);
        l.cloth(0);
        l.changes();
        l.most();
        l.count(99);
        due("of dye(), ask() alone", l.why(), ZERO);
        l.ask(seven, 0, 0);
        due("ask()", l.why(), 0);
        l.ask(l.pattern(OLD, 1, 0, 0), 8, 0);
        due("INDEX", l.why(), INDEX);
        l.ask(l.pattern(OLD, 4, 0, 0), 8, 0);
        due("MISSING", l.why(), MISSING);
        l.name(4, l.pattern(NAMED, 4, 0, 0));
        l.ask(l.pattern(NAMED, 4, 0, 0), 0, 0);
        due("TIRED", l.why(), TIRED);
        l.dye(0, 8, 0);
        due("refused dye()", l.why(), PatternLoom.UNKNOWN);
    }

    private static void count() {
        part = "11 count";
        PatternLoom l = new PatternLoom();
        for (int what : new int[] {-1, 5, MIN, MAX}) {
            due("count(" + what + ")", l.count(what), PatternLoom.OUTSIDE);
        }
        int seven = l.pattern(PLAIN, 7, 0, 0);
        int worn = l.pattern(WORN, seven, 2, 8);
        due("count(0)", l.count(0), 2);
        l.weave(worn, 0, 0, 5, 3);
        due("count(1)", l.count(1), 15);
        due("count(2)", l.count(2), 5);
        due("count(3) of the latest place", l.count(3), 2);
        due("count(4)", l.count(4), 7);
        l.ask(worn, 0, 0);
        due("count(3)", l.count(3), 1);
        due("count(4)", l.count(4), 8);
        l.weave(seven, 0, 0, 4, 2);
        due("count(1)", l.count(1), 8);
        due("count(2)", l.count(2), 4);
        due("count(3)", l.count(3), 1);
        due("count(4)", l.count(4), 8);
        l.pattern(99, 0, 0, 0);
        due("count(0)", l.count(0), 2);
    }
}
