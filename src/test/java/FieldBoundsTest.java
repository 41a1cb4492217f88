/** The bounds that the first part of "Terms" names of the FIELD, FINDS, MEN and CASES, a sentence each. */
final class FieldBoundsTest {
    private static final Due DUE = new Due("FieldBoundsTest");

    public static void main(String[] args) {
        steps();
        lanes();
        finds();
        noFindsAtFirst();
        sixMen();
        kinds();
        numbers();
        awayAtFirst();
        winsAtMost();
        believedAtFirst();
        rows();
        fiveCases();
        yearAtFirst();
        DUE.ends();
    }

    /** STEPS 0 .. 11. */
    private static void steps() {
        StraightFurrow x = new StraightFurrow();
        x.man(2, 0, 4);
        for (int step : new int[] {0, 11}) {
            DUE.is("T1 STEPS 0 .. 11: lay(" + step + ", 9)", x.lay(step, 9), 0);
            DUE.is("T1 STEPS 0 .. 11: told(" + (10 + step) + ")", x.told(10 + step), 9);
            DUE.is("T1 STEPS 0 .. 11: strays(0, " + step + ", 4)", x.strays(0, step, 4), 9);
        }
        for (int step : new int[] {-1, 12}) {
            DUE.is("T1 STEPS 0 .. 11: lay(" + step + ", 9)", x.lay(step, 9), -1);
            DUE.is("T1 STEPS 0 .. 11: told(" + (10 + step) + ")", x.told(10 + step), -999999);
            DUE.is("T1 STEPS 0 .. 11: strays(0, " + step + ", 4)", x.strays(0, step, 4), -999999);
        }
        DUE.is("T1 STEPS 0 .. 11: OFF by the first and the last", x.line(0, 4, 0), 2);
        DUE.is("T1 STEPS 0 .. 11: behind STEP 0", x.line(0, 4, 11), 5);
        DUE.is("T1 STEPS 0 .. 11: at STEP 11", x.line(0, 4, 21), 5);
        DUE.is("T1 to the other hedge behind STEP 11", x.line(0, 4, 22), 6);
    }

    /** LANES 0 .. 8. */
    private static void lanes() {
        StraightFurrow x = new StraightFurrow();
        for (int lane : new int[] {0, 8}) {
            int man = x.count(0);
            DUE.is("T1 LANES 0 .. 8: man(0, 0, " + lane + ")", x.man(0, 0, lane), man);
            DUE.is("T1 LANES 0 .. 8: its PEG", x.of(man, 2), lane);
            DUE.is("T1 LANES 0 .. 8: line from " + lane, x.line(man, lane, 10), lane);
            DUE.is("T1 LANES 0 .. 8: strays in " + lane, x.strays(man, 0, lane), 0);
        }
        for (int lane : new int[] {-1, 9}) {
            DUE.is("T1 LANES 0 .. 8: man(0, 0, " + lane + ")", x.man(0, 0, lane), -1);
            DUE.is("T1 LANES 0 .. 8: peg(0, " + lane + ")", x.peg(0, lane), -1);
            DUE.is("T1 LANES 0 .. 8: line from " + lane, x.line(0, lane, 10), -999999);
            DUE.is("T1 LANES 0 .. 8: strays in " + lane, x.strays(0, 0, lane), -999999);
        }
    }

    /** A FIND (0: none; 1 .. 9) may lie at each STEP. */
    private static void finds() {
        StraightFurrow x = new StraightFurrow();
        x.man(2, 0, 4);
        for (int step = 0; step < 12; step++) {
            DUE.is("T1 FIND 9 at " + step, x.lay(step, 9), 0);
            DUE.is("T1 FIND 1 at " + step + ", in place of 9", x.lay(step, 1), 9);
        }
        for (int step = 0; step < 12; step++) {
            DUE.is("T1 FIND 1 at " + step, x.strays(0, step, 4), 1);
            DUE.is("T1 FIND 0 at " + step + ": none", x.lay(step, 0), 1);
            DUE.is("T1 none at " + step, x.strays(0, step, 4), 0);
        }
        DUE.is("T1 no FIND of 10", x.lay(0, 10), -2);
        DUE.is("T1 no FIND of -1", x.lay(0, -1), -2);
    }

    /** (none at first) */
    private static void noFindsAtFirst() {
        StraightFurrow x = new StraightFurrow();
        for (int step = 0; step < 12; step++) {
            DUE.is("T1 no FIND at first at " + step, x.told(10 + step), 0);
            DUE.is("T1 no FIND was at " + step, x.lay(step, 0), 0);
        }
    }

    /** MEN are numbered from 0 on, 6 at most. */
    private static void sixMen() {
        StraightFurrow x = new StraightFurrow();
        DUE.is("T1 no MEN at first", x.of(0, 0), -999999);
        for (int man = 0; man < 6; man++) {
            DUE.is("T1 MEN ahead of " + man, x.count(0), man);
            DUE.is("T1 MAN " + man, x.man(0, man, 8 - man), man);
        }
        DUE.is("T1 6 MEN at most", x.man(0, 0, 0), -4);
        DUE.is("T1 6 MEN still", x.count(0), 6);
        DUE.is("T1 the first stays", x.of(0, 1) * 10 + x.of(0, 2), 8);
        DUE.is("T1 the last is there", x.of(5, 1) * 10 + x.of(5, 2), 53);
        DUE.is("T1 no seventh", x.of(6, 1), -999999);
    }

    /** KINDS 0 .. 6. */
    private static void kinds() {
        for (int kind = -1; kind <= 7; kind++) {
            StraightFurrow x = new StraightFurrow();
            boolean isKind = kind >= 0 && kind <= 6;
            DUE.is("T1 KIND " + kind, x.man(kind, 0, 0), isKind ? 0 : -1);
            DUE.is("T1 of KIND " + kind, x.of(0, 0), isKind ? kind : -999999);
        }
    }

    /** A number v (0 .. 9). */
    private static void numbers() {
        for (int v = -1; v <= 10; v++) {
            StraightFurrow x = new StraightFurrow();
            boolean isNumber = v >= 0 && v <= 9;
            DUE.is("T1 v " + v, x.man(0, v, 0), isNumber ? 0 : -2);
            DUE.is("T1 of v " + v, x.of(0, 1), isNumber ? v : -999999);
        }
    }

    /** AWAY, or not (not at first): of each of six. */
    private static void awayAtFirst() {
        StraightFurrow x = six();
        DUE.is("T1 AWAY at first", x.told(3), 0);
        for (int man = 0; man < 6; man++) {
            DUE.is("T1 not AWAY at first: " + man, x.of(man, 3), 0);
            DUE.is("T1 was not AWAY: " + man, x.away(man, true), 0);
            DUE.is("T1 AWAY up to " + man, x.told(3), (2 << man) - 1);
        }
        DUE.is("T1 not AWAY again", x.away(5, false), 1);
        DUE.is("T1 all but the last", x.told(3), 31);
    }

    private static StraightFurrow six() {
        StraightFurrow x = new StraightFurrow();
        for (int man = 0; man < 6; man++) {
            x.man(man, 0, 0);
        }
        return x;
    }

    /** WINS (0 .. 9999; 0 at first). */
    private static void winsAtMost() {
        StraightFurrow x = six();
        for (int man = 0; man < 6; man++) {
            DUE.is("T1 WINS at first: " + man, x.of(man, 4), 0);
        }
        for (int i = 0; i < 166; i++) {
            x.pass(60);
        }
        x.pass(38);
        DUE.is("T1 WINS 9998", x.of(0, 4), 9998);
        x.pass(1);
        DUE.is("T1 WINS 9999", x.of(0, 4), 9999);
        DUE.is("T1 no YEAR beyond it", x.pass(1), -3);
        DUE.is("T1 WINS 9999 at most", x.of(0, 4), 9999);
        DUE.is("T1 the others have none", x.of(1, 4) + x.of(5, 4), 0);
    }

    /** BELIEVED, or not (not at first), though his SCORE is PASS or more. */
    private static void believedAtFirst() {
        StraightFurrow x = six();
        DUE.is("T1 BELIEVED at first", x.told(2), 0);
        for (int man = 0; man < 6; man++) {
            DUE.is("T1 not BELIEVED at first: " + man, x.of(man, 5), 0);
        }
        x.pass(1);
        DUE.is("T1 BELIEVED: the first", x.of(0, 5), 1);
        DUE.is("T1 BELIEVED: the last", x.of(5, 5), 1);
    }

    /** A ROW of four numbers (0 .. 9; 0 at first). */
    private static void rows() {
        StraightFurrow x = new StraightFurrow();
        x.man(6, 0, 0);
        for (int k = 0; k < 4; k++) {
            DUE.is("T1 ROW at first: " + k, x.row(0, k, 9), 0);
        }
        for (int k = 0; k < 4; k++) {
            DUE.is("T1 ROW 9 at " + k, x.row(0, k, k), 9);
            DUE.is("T1 ROW 10 at " + k, x.row(0, k, 10), -2);
            DUE.is("T1 ROW -1 at " + k, x.row(0, k, -1), -2);
        }
        for (int k = 0; k < 4; k++) {
            DUE.is("T1 ROW stays " + k, x.row(0, k, 0), k);
        }
        DUE.is("T1 no ROW at 4", x.row(0, 4, 0), -1);
        DUE.is("T1 no ROW at -1", x.row(0, -1, 0), -1);
    }

    /** CASES are numbered from 0 on, 5 at most, each of one of MEN who says so and another one who says no. */
    private static void fiveCases() {
        StraightFurrow x = six();
        DUE.is("T1 no CASES at first", x.count(2), 0);
        DUE.is("T1 of one alone", x.plead(0, 0), -2);
        DUE.is("T1 of one alone, the last", x.plead(5, 5), -2);
        for (int plea = 0; plea < 5; plea++) {
            DUE.is("T1 no CASE yet", x.told(30 + plea), -999999);
            DUE.is("T1 CASE " + plea, x.plead(plea, 5), plea);
            DUE.is("T1 it is there", x.told(30 + plea), -5);
        }
        DUE.is("T1 5 CASES at most", x.plead(0, 1), -4);
        DUE.is("T1 5 CASES still", x.count(2), 5);
        DUE.is("T1 no sixth", x.told(35), -999999);
        x.away(5, true);
        x.pass(1);
        DUE.is("T1 the first stays", x.told(30), 0);
        DUE.is("T1 the last is there", x.told(34), 4);
    }

    /** YEAR: 0 at first. */
    private static void yearAtFirst() {
        StraightFurrow x = new StraightFurrow();
        DUE.is("T1 YEAR at first", x.told(0), 0);
        DUE.is("T1 YEAR without MEN", x.pass(1), 1);
        StraightFurrow y = Due.in("draw 1 y=0");
        y.man(0, 0, 0);
        DUE.is("T1 y is 0 at first", y.strays(0, 0, 0), 1);
    }
}
