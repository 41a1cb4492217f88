/** The bounds that "Terms" and promises 30 to 35 name of ACTS, THE TRACE, KINDS, THE IMAGE and counts. */
final class ActBoundsTest {
    private static final Due DUE = new Due("ActBoundsTest");
    private static final int MOST = Integer.MAX_VALUE, LEAST = Integer.MIN_VALUE;

    public static void main(String[] args) {
        ploughsWraps();
        looksWraps();
        swearsWraps();
        firstAndLastAct();
        traceAtTheEnds();
        traceOfTheLatest();
        tracesAreNotSummed();
        imageOfNobody();
        imageOfAll();
        imageTwice();
        imageIsNotInItself();
        traceIsNotInIt();
        countsAtFirst();
        DUE.ends();
    }

    /** MEN 0 .. 5 of that KIND, with v 4 .. 9. */
    private static StraightFurrow six(int kind) {
        StraightFurrow x = new StraightFurrow();
        for (int man = 0; man < 6; man++) {
            x.man(kind, 4 + man, 0);
        }
        return x;
    }

    private static void act(int kind, int man, int act, int x, int due) {
        DUE.is("T2 KIND " + kind + ": act(" + man + ", " + act + ", " + x + ")", six(kind).act(man, act, x), due);
    }

    /** x (ints, wrapping): + i, * 3, ^ i. */
    private static void ploughsWraps() {
        act(0, 0, 0, MOST, MOST);
        act(0, 1, 0, MOST, LEAST);
        act(0, 5, 0, MOST, LEAST + 4);
        act(0, 5, 0, MOST - 5, MOST);
        act(0, 5, 0, LEAST, LEAST + 5);
        act(1, 0, 0, 715827882, 2147483646);
        act(1, 0, 0, 715827883, -2147483647);
        act(1, 5, 0, MOST, LEAST + 2);
        act(1, 1, 0, LEAST, LEAST + 1);
        act(5, 5, 0, MOST, LEAST + 4 ^ 5);
        act(5, 1, 0, -1, 0 ^ 1);
        act(4, 0, 0, -715827883, 2147483647);
    }

    /** - v, turned, + v. */
    private static void looksWraps() {
        act(0, 0, 1, LEAST + 4, LEAST);
        act(0, 0, 1, LEAST + 3, MOST);
        act(0, 0, 1, LEAST, MOST - 3);
        act(2, 0, 1, LEAST + 4, LEAST);
        act(2, 0, 1, LEAST + 5, MOST);
        act(2, 0, 1, LEAST + 3, -MOST);
        act(6, 0, 1, LEAST, LEAST);
        act(6, 5, 1, MOST, LEAST + 4);
        act(3, 0, 1, LEAST, MOST - 3);
    }

    /** * 2, ^ 7, x - 1, + ploughs(2). */
    private static void swearsWraps() {
        act(0, 0, 2, 1073741827, 2147483646);
        act(0, 0, 2, 1073741828, LEAST);
        act(0, 0, 2, LEAST + 4, 0);
        act(3, 0, 2, 1073741828, LEAST + 7);
        act(3, 0, 2, LEAST + 4, 7);
        act(3, 0, 2, 3, -2 ^ 7);
        // LEAST less 1 is MOST, three times that MOST less 2; less v 4, twice, -14; and three times 2
        act(4, 0, 2, LEAST, -8);
        act(4, 0, 2, 715827885, 6);
        act(6, 0, 2, LEAST, 7);
    }

    /** (0 ploughs, 1 looks, 2 swears) */
    private static void firstAndLastAct() {
        StraightFurrow x = six(0);
        DUE.is("30: act(0, 0, 7)", x.act(0, 0, 7), 7);
        DUE.is("30: act(0, 1, 7)", x.act(0, 1, 7), 3);
        DUE.is("30: act(0, 2, 7)", x.act(0, 2, 7), 6);
        DUE.is("31: three ran", x.count(7), 3);
        DUE.is("30: act(0, 3, 7)", x.act(0, 3, 7), 0);
        DUE.is("31: none ran", x.count(7), 0);
        DUE.is("31: no TRACE then", x.trace(0), -1);
        x.act(0, 2, 7);
        DUE.is("30: act(0, -1, 7)", x.act(0, -1, 7), 0);
        DUE.is("31: no TRACE then", x.trace(0), -1);
        x.act(0, 2, 7);
        DUE.is("30: act(6, 0, 7)", x.act(6, 0, 7), 0);
        DUE.is("31: no TRACE then", x.trace(0) + x.count(7), -1);
        x.act(0, 2, 7);
        DUE.is("30: act(-1, 0, 7)", x.act(-1, 0, 7), 0);
        DUE.is("31: no TRACE then", x.trace(0) + x.count(7), -1);
        DUE.is("30: act(5, 0, 7)", x.act(5, 0, 7), 12);
    }

    /** THE TRACE's i-th body: the first and the last of the most that can run. */
    private static void traceAtTheEnds() {
        StraightFurrow x = six(4);
        x.act(0, 2, 1);
        int[] due = {41, 3, 2, 11, 1, 11, 1};
        DUE.is("35: bodies that ran", x.count(7), due.length);
        for (int i = 0; i < due.length; i++) {
            DUE.is("31: trace(" + i + ")", x.trace(i), due[i]);
        }
        for (int i : new int[] {-1, 7, 19, 20, 21, MOST, LEAST}) {
            DUE.is("31: trace(" + i + ")", x.trace(i), -1);
        }
    }

    /** .. in the latest act(): a shorter one leaves nothing of a longer one. */
    private static void traceOfTheLatest() {
        StraightFurrow x = six(4);
        x.act(0, 2, 1);
        x.act(1, 0, 1);
        DUE.is("31: the first of two", x.trace(0), 11);
        DUE.is("31: the second of two", x.trace(1), 1);
        DUE.is("31: no third", x.trace(2), -1);
        DUE.is("35: two ran", x.count(7), 2);
        x.pass(1);
        x.as(0, 9);
        DUE.is("31: it stays by other calls", x.trace(1), 1);
    }

    /** Each act begins anew, so that what is kept never falls short: four times seven are more than 20. */
    private static void tracesAreNotSummed() {
        StraightFurrow x = six(4);
        for (int i = 0; i < 4; i++) {
            x.act(0, 2, 1);
            DUE.is("35: seven ran", x.count(7), 7);
            DUE.is("31: the last of them", x.trace(6), 1);
        }
    }

    /** image(): how many MANS there are; undo(): STATE: there is none. */
    private static void imageOfNobody() {
        StraightFurrow x = new StraightFurrow();
        DUE.is("34: no IMAGE", x.undo(), -3);
        x.man(0, 0, 0);
        DUE.is("34: no IMAGE still", x.undo(), -3);
        DUE.is("34: nothing changes by it", x.count(0), 1);
        StraightFurrow y = new StraightFurrow();
        DUE.is("33: image() of nobody", y.image(), 0);
        y.man(0, 0, 0);
        DUE.is("34: undo() to nobody", y.undo(), 0);
        DUE.is("34: nobody is there", y.count(0), 0);
        DUE.is("34: undo() again", y.undo(), 0);
    }

    /** All at its limit is kept, and so are refusals by it. */
    private static void imageOfAll() {
        StraightFurrow x = Whole.full();
        DUE.is("33: image() of six", x.image(), 6);
        x.see(-1, 0, 0);
        x.plan(-1, 0);
        x.book(-1, 0);
        x.pass(60);
        DUE.is("34: undo() to six", x.undo(), 6);
        StraightFurrow same = Whole.full();
        same.image();
        DUE.is("34: all is as ahead", Whole.of(x).equals(Whole.of(same)) ? 1 : 0, 1);
        StraightFurrow full = Whole.full();
        full.image();
        full.undo();
        DUE.is("34: MEN are FULL", full.man(0, 0, 0), -4);
        DUE.is("34: PARISHES are FULL", full.parish(), -4);
        DUE.is("34: THE TAPE is FULL", full.feed(1), -4);
        DUE.is("34: CASES are FULL", full.plead(0, 1), -4);
        DUE.is("34: SEEN is FULL", full.see(0, 0, 0), -4);
        DUE.is("34: the PLAN is FULL", full.plan(0, 0), -4);
        DUE.is("34: BOOK is FULL", full.book(0, 0), -4);
    }

    /** The newest IMAGE alone is gone back to. */
    private static void imageTwice() {
        StraightFurrow x = new StraightFurrow();
        x.man(0, 1, 1);
        DUE.is("33: image() of one", x.image(), 1);
        x.man(0, 2, 2);
        DUE.is("33: image() of two", x.image(), 2);
        x.man(0, 3, 3);
        DUE.is("34: undo() to two", x.undo(), 2);
        DUE.is("34: undo() to two again", x.undo(), 2);
        DUE.is("34: the second is as it was", x.of(1, 1) * 10 + x.of(1, 2), 22);
        DUE.is("34: the third is not", x.of(2, 1), -999999);
        DUE.is("4: what comes then is new", x.man(6, 5, 5), 2);
        DUE.is("4: of it nothing is set", x.of(2, 3) + x.of(2, 4) + x.of(2, 5) + x.row(2, 0, 0), 0);
    }

    /** All that there is (but THE IMAGE ..): to go back to it does not take it away. */
    private static void imageIsNotInItself() {
        StraightFurrow x = new StraightFurrow();
        x.image();
        x.pass(5);
        DUE.is("34: undo()", x.undo(), 0);
        DUE.is("34: YEAR", x.told(0), 0);
        x.pass(7);
        DUE.is("34: THE IMAGE is still there", x.undo(), 0);
        DUE.is("34: YEAR", x.told(0), 0);
    }

    /** (.. and THE TRACE) */
    private static void traceIsNotInIt() {
        StraightFurrow x = six(0);
        x.act(0, 2, 1);
        x.image();
        x.act(1, 0, 1);
        x.undo();
        DUE.is("34: THE TRACE is that of the latest act()", x.trace(0), 1);
        DUE.is("34: one ran", x.count(7), 1);
        x.act(9, 0, 1);
        x.undo();
        DUE.is("34: no TRACE comes again", x.trace(0), -1);
        DUE.is("34: none ran", x.count(7), 0);
    }

    private static void countsAtFirst() {
        StraightFurrow x = new StraightFurrow();
        for (int what = 0; what <= 7; what++) {
            DUE.is("35: count(" + what + ") at first", x.count(what), 0);
        }
        DUE.is("35: count(8)", x.count(8), -1);
        DUE.is("35: count(-1)", x.count(-1), -1);
    }
}
