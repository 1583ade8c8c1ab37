/** What the hand-written tests share: the numbers of the document, and the comparing of answers with those due. */
abstract class LoomTest {
    static final int MIN = Integer.MIN_VALUE, MAX = Integer.MAX_VALUE;
    /** The failures as why() and weave() tell them: -10 less the failure's number. */
    static final int ZERO = -11, INDEX = -12, MISSING = -13, TIRED = -14;
    static final int PLAIN = 0, STRIPES = 1, TWILL = 2, MOVED = 3, TURNED = 4, OVER = 5, WHERE = 6;
    static final int DYED = 7, FAST = 8, NAMED = 9, WORN = 10, BOTH = 11, SAFE = 12, OLD = 13;

    static String part = "";
    private static int wrong = 0;

    static void due(String call, int got, int want) {
        if (got != want) {
            wrong++;
            System.out.println(part + ": " + call + " answered " + got + ", due is " + want);
        }
    }

    static void due(String call, String got, String want) {
        if (!got.equals(want)) {
            wrong++;
            System.out.println(part + ": " + call + " came to " + got + ", due is " + want);
        }
    }

    static void dueAsk(PatternLoom l, int p, int x, int y, int want) {
        String call = "ask(" + p + ", " + x + ", " + y + ")";
        due(call, l.ask(p, x, y), want);
        due(call + ", why()", l.why(), 0);
    }

    static void dueFails(PatternLoom l, int p, int x, int y, int want) {
        String call = "ask(" + p + ", " + x + ", " + y + ")";
        due(call, l.ask(p, x, y), 0);
        due(call + ", why()", l.why(), want);
    }

    static void dueCloth(PatternLoom l, int... want) {
        due("count(1)", l.count(1), want.length);
        for (int i = 0; i < want.length; i++) {
            due("cloth(" + i + ")", l.cloth(i), want[i]);
        }
        due("cloth() behind the last", l.cloth(want.length), 0);
    }

    static void end(String ifAllIsWell) {
        System.out.println(wrong == 0 ? ifAllIsWell : wrong + " answers are not as due");
        if (wrong != 0) {
            System.exit(1);
        }
    }
}
