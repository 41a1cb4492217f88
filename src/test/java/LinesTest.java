/** Promises 13, 14 and 17 to 20: lines, what strays, and what would be otherwise. */
final class LinesTest {
    private static final Due DUE = new Due("LinesTest");
    private static final int MOST = Integer.MAX_VALUE, LEAST = Integer.MIN_VALUE;

    public static void main(String[] args) {
        aLine();
        noLine();
        whatStrays();
        starts();
        wavers();
        clears();
        clearsTheLeast();
        clearsNone();
        clearsWithBends();
        clearsWhatStraysAnyway();
        bars();
        DUE.ends();
    }

    /** From LANE 7: up at 0 to 8, held by the hedge at 1, down at 5 and 6, up at 9 and 11. */
    private static void aLine() {
        StraightFurrow x = Due.in("draw 1 x<2|x=9|x=11;hold 4 x=5|x=6");
        x.man(0, 0, 3);
        int[] lanes = {7, 8, 8, 8, 8, 8, 7, 6, 6, 6, 7, 7, 8};
        for (int step = 0; step <= 12; step++) {
            DUE.is("13: LANE at STEP " + step, x.line(0, 7, 10 + step), lanes[step]);
        }
        DUE.is("13: OFF", x.line(0, 7, 0), 5);
        DUE.is("13: BENDS", x.line(0, 7, 1), 2);
        DUE.is("13: SPAN", x.line(0, 7, 2), 1);
        DUE.is("13: SCORE", x.line(0, 7, 3), 30);
        DUE.is("13: SPAN from 3", x.line(0, 3, 2), 2);
        DUE.is("13: SCORE from 3", x.line(0, 3, 3), 40 - 6 - 4 - 2);
        DUE.is("13: its PEG stays", x.of(0, 2), 3);
        StraightFurrow down = Due.in("hold 1 x<11");
        down.man(0, 0, 3);
        DUE.is("13: OFF to the low hedge", down.line(0, 3, 0), 3);
        DUE.is("13: SPAN down", down.line(0, 3, 2), 3);
        DUE.is("13: LANE in the end", down.line(0, 3, 22), 0);
    }

    private static void noLine() {
        StraightFurrow x = new StraightFurrow();
        x.man(0, 0, 3);
        int[][] none = {{-1, 0, 0}, {1, 0, 0}, {0, -1, 0}, {0, 9, 0}, {0, 0, -1}, {0, 0, 4}, {0, 0, 9}, {0, 0, 23},
            {MOST, 0, 0}, {0, LEAST, 0}, {0, 0, MOST}, {0, 0, LEAST}};
        for (int[] row : none) {
            DUE.is("13: line of none", x.line(row[0], row[1], row[2]), -999999);
        }
        int[][] nowhere = {{-1, 0, 0}, {1, 0, 0}, {0, -1, 0}, {0, 12, 0}, {0, 0, -1}, {0, 0, 9}};
        for (int[] row : nowhere) {
            DUE.is("14: strays of none", x.strays(row[0], row[1], row[2]), -999999);
        }
    }

    private static void whatStrays() {
        // DRIFT 5 at STEP 0, -5 at STEP 1, 0 at STEP 2; FINDS 4 and 2
        StraightFurrow x = Due.in("draw 9 x=0;hold 4 x=0;hold 5 x=1");
        x.lay(0, 4);
        x.lay(1, 2);
        for (int kind = 0; kind < 7; kind++) {
            x.man(kind == 6 ? 6 : kind, 3, 0);
            if (kind == 5) {
                break;
            }
        }
        int[][] even = {{5, -5, 0}, {2, -2, 0}, {9, -3, 0}, {5, 0, 0}, {-1, -5, -3}, {9, -3, 0}};
        strayAll(x, even);
        x.pass(1);
        int[][] odd = {{5, -5, 0}, {2, -2, 0}, {9, -3, 0}, {5, 0, 0}, {-1, -5, -3}, {-9, 3, 0}};
        strayAll(x, odd);
        x.pass(1);
        strayAll(x, even);
        x.pass(1);
        strayAll(x, odd);
        x.lay(0, 3);
        DUE.is("14: a FIND that is no more than v", x.strays(3, 0, 4), 0);
        StraightFurrow told = Due.in("draw 9 x=0;hold 4 x=0;hold 5 x=1");
        told.lay(0, 4);
        told.lay(1, 3);
        told.man(6, 3, 0);
        told.row(0, 0, 9);
        told.row(0, 1, 6);
        told.row(0, 2, 4);
        int[] due = {10, 2, 0, -4, 5, 2, 0, -4, 5, 2, 0, -4};
        for (int step = 0; step < 12; step++) {
            DUE.is("14: a TOLD one at " + step, told.strays(0, step, 8), due[step]);
        }
    }

    private static void strayAll(StraightFurrow x, int[][] due) {
        for (int man = 0; man < due.length; man++) {
            for (int step = 0; step < 3; step++) {
                DUE.is("14: strays(" + man + ", " + step + ", 4)", x.strays(man, step, 4), due[man][step]);
            }
        }
    }

    private static void starts() {
        StraightFurrow x = Due.in("draw 1 l<3;hold 1 l=4&x<3");
        x.man(0, 0, 0);
        x.man(4, 9, 0);
        DUE.is("17: of several the first", x.start(0), 3);
        DUE.is("17: its PEG is not looked at", x.of(0, 6), 40 - 3 - 3);
        DUE.is("17: at the hedge", x.start(1), 0);
        DUE.is("17: start(2)", x.start(2), -1);
        DUE.is("17: start(-1)", x.start(-1), -1);
        x.away(0, true);
        DUE.is("17: AWAY or not", x.start(0), 3);
        StraightFurrow y = Due.in("draw 1 l=0|l>1");
        y.man(0, 0, 8);
        DUE.is("17: just one is straight", y.start(0), 1);
        StraightFurrow z = Due.in("draw 1 l>0&l<8");
        z.man(0, 0, 4);
        DUE.is("17: the first of two", z.start(0), 0);
    }

    private static void wavers() {
        StraightFurrow x = Due.in("hold 5 x=3|x=4");
        x.man(2, 0, 4);
        x.man(0, 0, 4);
        x.lay(3, 5);
        DUE.is("18: its SCORE ahead", x.of(0, 6), 38);
        DUE.is("18: waver(0, 9), 0 being as bad as 3", x.waver(0, 9), 0);
        DUE.is("18: waver(0, 1)", x.waver(0, 1), 0);
        StraightFurrow bends = Due.in("draw 1 x=2;hold 9 x=6");
        bends.man(2, 0, 4);
        DUE.is("18: a second bend, behind the first", bends.waver(0, 5), 7);
        DUE.is("18: waver(1, 9): MAN", x.waver(1, 9), -5);
        DUE.is("18: what lies stays", x.told(13), 5);
        DUE.is("18: waver(2, 1)", x.waver(2, 1), -1);
        DUE.is("18: waver(-1, 1)", x.waver(-1, 1), -1);
        DUE.is("18: waver(0, 0)", x.waver(0, 0), -2);
        DUE.is("18: waver(0, 10)", x.waver(0, 10), -2);
        DUE.is("18: NONE ahead of BAD", x.waver(2, 0), -1);
        StraightFurrow same = new StraightFurrow();
        same.man(2, 0, 8);
        DUE.is("18: by the hedge nothing is less", same.waver(0, 9), -5);
        same.peg(0, 7);
        DUE.is("18: of several the first", same.waver(0, 9), 0);
        same.lay(0, 1);
        DUE.is("18: no less than it is", same.waver(0, 9), -5);
    }

    private static void clears() {
        StraightFurrow x = Due.in("pass 35");
        x.man(2, 0, 0);
        DUE.is("19: clear(-1)", x.clear(-1), -1);
        DUE.is("19: clear(1)", x.clear(1), -1);
        DUE.is("19: no FINDS, none to be taken", x.clear(0), 0);
        x.lay(1, 1);
        x.lay(4, 2);
        DUE.is("19: it passes as it is", x.clear(0), 0);
        x.lay(7, 3);
        DUE.is("19: one of three, the least as bits", x.clear(0), 1 << 1);
        x.lay(9, 3);
        DUE.is("19: two of four", x.clear(0), 1 << 1 | 1 << 4);
        DUE.is("19: nothing is taken", x.told(11) * 10 + x.told(14), 12);
        x.away(0, true);
        DUE.is("19: AWAY or not", x.clear(0), 1 << 1 | 1 << 4);
    }

    /** One late find is fewer than two early ones, though greater as bits. */
    private static void clearsTheLeast() {
        StraightFurrow x = Due.in("pass 38;hold 9 x=10&f=9;draw 1 x=11&f=8");
        x.man(0, 0, 4);
        for (int step = 0; step < 12; step++) {
            x.lay(step, 1);
        }
        x.lay(10, 9);
        x.lay(11, 8);
        DUE.is("19: its SCORE", x.of(0, 6), 36);
        DUE.is("19: the STEP that bends", x.clear(0), 1 << 10);
        StraightFurrow y = Due.in("pass 40;draw 1 f=2;draw 5 f=3;hold 1 f=4");
        y.man(0, 0, 4);
        y.lay(0, 2);
        y.lay(5, 3);
        y.lay(6, 4);
        y.lay(7, 1);
        DUE.is("19: all that count, no more", y.clear(0), 1 | 1 << 5 | 1 << 6);
    }

    private static void clearsNone() {
        StraightFurrow x = Due.in("pass 41");
        x.man(0, 0, 4);
        DUE.is("19: PASS above all", x.clear(0), -5);
        StraightFurrow y = Due.in("pass 40;draw 1 f=0&x=3");
        y.man(0, 0, 4);
        DUE.is("19: STEPS without FINDS are not taken", y.clear(0), -5);
        y.lay(3, 1);
        DUE.is("19: a FIND may hold", y.clear(0), 0);
        for (int step = 0; step < 12; step++) {
            y.lay(step, 2);
        }
        DUE.is("19: twelve FINDS, none to be taken", y.clear(0), 0);
        StraightFurrow z = Due.in("pass 39");
        z.man(2, 0, 0);
        for (int step = 0; step < 12; step++) {
            z.lay(step, 2);
        }
        DUE.is("19: all twelve", z.clear(0), 4095);
        z.peg(0, 8);
        DUE.is("19: by the hedge", z.clear(0), 0);
    }

    /** Up at 0, down at 5, and up by the FIND at 8. */
    private static void clearsWithBends() {
        String moves = ";draw 1 x=0;hold 1 x=5;draw 1 f=3";
        int[] passes = {32, 33, 36, 37};
        int[] due = {0, 1 << 8, 1 << 8, -5};
        for (int i = 0; i < passes.length; i++) {
            StraightFurrow x = Due.in("pass " + passes[i] + moves);
            x.man(0, 0, 4);
            x.lay(8, 3);
            DUE.is("19: clear(0) with bends, PASS " + passes[i], x.clear(0), due[i]);
        }
    }

    /** A STEP draws though its FIND is taken, or else holds: by the LANE. */
    private static void clearsWhatStraysAnyway() {
        StraightFurrow x = Due.in("pass 40;draw 1 x=3;draw 1 f=2&x=5");
        x.man(0, 0, 4);
        x.lay(3, 1);
        x.lay(5, 2);
        DUE.is("19: it strays at 3 anyway", x.clear(0), -5);
        x.peg(0, 8);
        DUE.is("19: not by the hedge", x.clear(0), 0);
        StraightFurrow y = Due.in("pass 38;draw 1 f=1&l<6;hold 1 f=0&x=7&l=5;draw 1 x=9&f=0");
        y.man(0, 0, 4);
        y.lay(7, 1);
        y.lay(9, 2);
        y.lay(2, 1);
        // By 2 and 7 to LANE 6: 36. Without 2 to 5: 38; without 7 to 5, and back to 4 behind STEP 7: less.
        DUE.is("19: that at 2, not that at 7", y.clear(0), 1 << 2);
        y.lay(2, 0);
        DUE.is("19: it passes then", y.clear(0), 0);
    }

    private static void bars() {
        StraightFurrow x = Due.in("pass 3;draw 1 p=1&x<1;draw 1 p=2&x<2");
        DUE.is("20: nobody", x.bar(0), 0);
        x.man(0, 0, 4);
        x.man(0, 0, 4);
        x.man(0, 0, 4);
        DUE.is("20: bar(0)", x.bar(0), 41);
        DUE.is("20: bar(1)", x.bar(1), 39);
        DUE.is("20: bar(2)", x.bar(2), 37);
        DUE.is("20: bar(3)", x.bar(3), 0);
        DUE.is("20: bar(6)", x.bar(6), 0);
        x.away(0, true);
        DUE.is("20: bar(0), the first being AWAY", x.bar(0), 39);
        DUE.is("20: bar(-1)", x.bar(-1), -2);
        DUE.is("20: bar(7)", x.bar(7), -2);
        DUE.is("20: PASS stays", x.told(1), 3);
    }
}
