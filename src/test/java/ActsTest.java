/** Promises 30 to 35: acts, the trace, kinds, the image, counts. */
final class ActsTest {
    private static final Due DUE = new Due("ActsTest");
    private static final int[] ABOVE = {-1, 0, 0, 0, 1, 2, 3};

    public static void main(String[] args) {
        acts();
        wraps();
        noActs();
        kinds();
        image();
        imageHoldsAll();
        counts();
        DUE.ends();
    }

    private static StraightFurrow six(int first) {
        StraightFurrow x = new StraightFurrow();
        for (int i = 0; i < 6; i++) {
            x.man(first + i, i + 2, 0);
        }
        return x;
    }

    private static void acts() {
        // MEN 0 .. 5 of KINDS 1 .. 6, with v 2 .. 7
        StraightFurrow x = six(1);
        ran(x, 0, 0, 5, 15, 11, 1);
        ran(x, 0, 1, 5, 13, 2, 11, 1);
        ran(x, 0, 2, 5, 26, 3, 2, 11, 1);
        ran(x, 1, 0, 5, 6, 1);
        ran(x, 1, 1, 5, -(6 - 3), 21, 2, 1);
        ran(x, 1, 2, 5, -6, 3, 21, 2, 1);
        ran(x, 2, 0, 5, 7, 1);
        ran(x, 2, 1, 5, 3, 2, 1);
        ran(x, 2, 2, 5, 6 ^ 7, 31, 3, 2, 1);
        ran(x, 3, 0, 5, 18, 11, 1);
        ran(x, 3, 1, 5, 13, 2, 11, 1);
        ran(x, 3, 2, 5, (12 + 3 - 5) * 2 + 9, 41, 3, 2, 11, 1, 11, 1);
        ran(x, 4, 0, 5, 9 ^ 4, 51, 1);
        ran(x, 4, 1, 5, -((9 ^ 4) - 6), 21, 2, 51, 1);
        ran(x, 4, 2, 5, -((9 ^ 4) - 6) * 2, 3, 21, 2, 51, 1);
        ran(x, 5, 0, 5, 10, 1);
        ran(x, 5, 1, 5, 10, 61, 2, 1);
        ran(x, 5, 2, 5, 20 ^ 7, 31, 3, 61, 2, 1);
        StraightFurrow man = six(0);
        ran(man, 0, 0, -9, -9, 1);
        ran(man, 0, 1, -9, -11, 2, 1);
        ran(man, 0, 2, -9, -22, 3, 2, 1);
    }

    private static void ran(StraightFurrow x, int man, int act, int with, int due, int... bodies) {
        String call = "act(" + man + ", " + act + ", " + with + ")";
        DUE.is("30: " + call, x.act(man, act, with), due);
        DUE.is("35: count(7) behind " + call, x.count(7), bodies.length);
        for (int i = 0; i < bodies.length; i++) {
            DUE.is("31: trace(" + i + ") behind " + call, x.trace(i), bodies[i]);
        }
        DUE.is("31: no more behind " + call, x.trace(bodies.length), -1);
    }

    private static void wraps() {
        StraightFurrow x = six(1);
        DUE.is("30: 3 times the most", x.act(0, 0, Integer.MAX_VALUE), Integer.MAX_VALUE * 3);
        DUE.is("30: the least less v, twice", x.act(2, 2, Integer.MIN_VALUE), (Integer.MIN_VALUE - 2) * 2 ^ 7);
        DUE.is("30: the least turned", x.act(1, 1, Integer.MIN_VALUE + 2), Integer.MIN_VALUE);
    }

    private static void noActs() {
        StraightFurrow x = six(1);
        int[][] none = {{-1, 0}, {6, 0}, {0, -1}, {0, 3}};
        for (int[] row : none) {
            x.act(0, 0, 1);
            DUE.is("30: act(" + row[0] + ", " + row[1] + ", 5)", x.act(row[0], row[1], 5), 0);
            DUE.is("31: no TRACE then", x.trace(0), -1);
            DUE.is("35: count(7)", x.count(7), 0);
        }
        x.act(0, 0, 1);
        DUE.is("31: trace(-1)", x.trace(-1), -1);
        DUE.is("31: trace(20)", x.trace(20), -1);
    }

    private static void kinds() {
        for (int first = 0; first < 2; first++) {
            StraightFurrow x = six(first);
            for (int man = 0; man < 6; man++) {
                for (int k = 0; k < 7; k++) {
                    boolean under = false;
                    for (int kind = first + man; kind >= 0; kind = ABOVE[kind]) {
                        under |= kind == k;
                    }
                    DUE.is("32: as(" + man + ", " + k + ")", x.as(man, k), under ? man + 2 : -6);
                }
                DUE.is("32: as(" + man + ", 7)", x.as(man, 7), -1);
                DUE.is("32: as(" + man + ", -1)", x.as(man, -1), -1);
            }
            DUE.is("32: as(6, 0)", x.as(6, 0), -1);
            DUE.is("32: as(-1, 0)", x.as(-1, 0), -1);
        }
    }

    private static void image() {
        StraightFurrow x = new StraightFurrow();
        DUE.is("34: none yet", x.undo(), -3);
        DUE.is("33: image() of nobody", x.image(), 0);
        x.man(4, 7, 3);
        DUE.is("34: undo()", x.undo(), 0);
        DUE.is("34: of(0, 0)", x.of(0, 0), -999999);
        x.man(6, 1, 1);
        DUE.is("5: of one in an undone place", x.of(0, 1), 1);
        DUE.is("33: image() of one", x.image(), 1);
        x.row(0, 0, 9);
        x.away(0, true);
        x.man(0, 0, 0);
        DUE.is("34: undo()", x.undo(), 1);
        DUE.is("34: its ROW", x.row(0, 0, 5), 0);
        DUE.is("34: THE IMAGE stays", x.undo(), 1);
        DUE.is("34: and is not touched", x.row(0, 0, 5), 0);
        DUE.is("34: not AWAY", x.told(3), 0);
    }

    /** All that an image holds is made other, and undone. */
    private static void imageHoldsAll() {
        StraightFurrow x = Due.in("pass 20;draw 2 x=1");
        x.man(6, 3, 4);
        x.man(0, 0, 4);
        x.row(0, 1, 7);
        x.lay(2, 6);
        x.plead(0, 1);
        x.see(0, 1, 4);
        x.plan(0, 0);
        x.book(1, 4);
        x.away(0, true);
        x.pass(1);
        x.feed('p');
        DUE.is("33: image()", x.image(), 2);
        String ahead = all(x);
        x.act(1, 0, 5);
        Due.parish(x, "ass 10;hold 1 x=1");
        x.feed('q');
        x.feed('q');
        x.man(1, 1, 1);
        x.peg(0, 0);
        x.peg(1, 0);
        x.row(0, 1, 1);
        x.lay(2, 0);
        x.lay(3, 9);
        x.plead(1, 0);
        x.see(-1, 0, 0);
        x.plan(1, 0);
        x.book(0, 4);
        x.away(0, false);
        x.away(1, true);
        x.pass(5);
        DUE.is("33: all is other", all(x).equals(ahead) ? 1 : 0, 0);
        DUE.is("34: undo()", x.undo(), 2);
        DUE.is("34: all is as it was", all(x).equals(ahead) ? 1 : 0, 1);
        DUE.is("34: THE TRACE is not", x.trace(0) * 10 + x.count(7), 11);
        DUE.is("34: THE TAPE goes on", Due.parish(x, "ass 1"), 1);
    }

    private static String all(StraightFurrow x) {
        StringBuilder told = new StringBuilder();
        for (int what = 0; what <= 35; what++) {
            told.append(x.told(what)).append(' ');
        }
        for (int man = 0; man < 6; man++) {
            for (int what = 0; what <= 6; what++) {
                told.append(x.of(man, what)).append(' ');
            }
            for (int step = 0; step < 4; step++) {
                told.append(x.strays(man, step, 4)).append(' ');
            }
            told.append(x.from(man)).append(' ');
        }
        for (int what = 0; what <= 6; what++) {
            told.append(x.count(what)).append(' ');
        }
        return told.append(x.looked()).append(' ').append(x.done(0)).append(' ').append(x.done(1)).toString();
    }

    private static void counts() {
        StraightFurrow x = six(1);
        DUE.is("35: count(0)", x.count(0), 6);
        DUE.is("35: count(8)", x.count(8), -1);
        DUE.is("35: count(-1)", x.count(-1), -1);
        x.plead(0, 1);
        x.feed(1);
        x.see(0, 0, 0);
        x.plan(0, 0);
        x.plan(0, 0);
        x.book(0, 0);
        int[] due = {6, 0, 1, 1, 2, 1, 1, 0};
        for (int what = 0; what <= 7; what++) {
            DUE.is("35: count(" + what + ")", x.count(what), due[what]);
        }
    }
}
