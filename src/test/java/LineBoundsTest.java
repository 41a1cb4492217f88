/** The bounds that "Terms" names of DRIFT, STRAYS, A LINE, A YEAR and CASES, a sentence each. */
final class LineBoundsTest {
    private static final Due DUE = new Due("LineBoundsTest");

    public static void main(String[] args) {
        driftAtMost();
        driftOfNothing();
        farmerCutsTowardZero();
        boyAddsTheFind();
        swindlerByMoreThanV();
        veteranLessV();
        dreamerInOddYears();
        toldByItsRow();
        changesByTheSign();
        hedges();
        off();
        bends();
        bendsBehindAPause();
        span();
        score();
        believedAtPass();
        awayOnesAreNot();
        firstOfSeveralWins();
        nobodyWins();
        yearTo9999();
        believedTillAYearGoes();
        decided();
        DUE.ends();
    }

    private static StraightFurrow one(String text, int kind, int v) {
        StraightFurrow x = text.isEmpty() ? new StraightFurrow() : Due.in(text);
        x.man(kind, v, 4);
        return x;
    }

    private static void strays(String name, String text, int kind, int v, int find, int due) {
        StraightFurrow x = one(text, kind, v);
        x.lay(0, find);
        DUE.is("T1 " + name + ": " + text + ", v " + v + ", FIND " + find, x.strays(0, 0, 4), due);
    }

    /** DRIFT: the n of all draw whose E holds, less those of all hold, together (may be below 0). */
    private static void driftAtMost() {
        String eight = ";draw 99 x=0".repeat(8).substring(1);
        strays("DRIFT, the most of eight", eight, 0, 0, 0, 792);
        strays("DRIFT, the least of eight", eight.replace("draw", "hold"), 0, 0, 0, -792);
        strays("DRIFT, as much drawn as held", "draw 99 x=0;hold 99 x=0", 0, 0, 0, 0);
        strays("DRIFT, below 0", "draw 98 x=0;hold 99 x=0", 0, 0, 0, -1);
        strays("DRIFT, all draw", "draw 1 x=0;draw 2 x=0;draw 4 x=1;draw 8 x=0", 0, 0, 0, 11);
        strays("DRIFT, all hold", "hold 1 x=0;hold 2 x=0;hold 4 x=1;hold 8 x=0", 0, 0, 0, -11);
    }

    private static void driftOfNothing() {
        strays("DRIFT without CLAUSES", "", 0, 0, 0, 0);
        strays("DRIFT by n 0", "draw 0 x=0", 0, 0, 0, 0);
        strays("DRIFT, no E holds", "draw 9 x>0;hold 8 x>0", 0, 0, 0, 0);
        strays("MAN: DRIFT alone", "", 0, 9, 9, 0);
    }

    /** FARMER: the half (cut toward 0) of DRIFT. */
    private static void farmerCutsTowardZero() {
        int[][] halves = {{0, 0}, {1, 0}, {2, 1}, {3, 1}, {4, 2}, {99, 49}};
        for (int[] row : halves) {
            strays("FARMER", "draw " + row[0] + " x=0", 1, 9, 9, row[1]);
            strays("FARMER", "hold " + row[0] + " x=0", 1, 9, 9, -row[1]);
            strays("VETERAN", "draw " + row[0] + " x=0", 4, 0, 9, row[1]);
            strays("VETERAN", "hold " + row[0] + " x=0", 4, 0, 9, -row[1]);
        }
        StraightFurrow x = one("draw 1 x=0;hold 1 x=1;draw 2 x=2;hold 2 x=3", 1, 0);
        DUE.is("T1 FARMER: OFF by halves that are not 0", x.line(0, 4, 0), 2);
        DUE.is("T1 FARMER: straight by 1 and -1", x.line(0, 4, 12), 4);
    }

    /** BOY: DRIFT, and the FIND there. */
    private static void boyAddsTheFind() {
        strays("BOY without a FIND", "draw 3 x=0", 2, 9, 0, 3);
        strays("BOY, FIND 1", "draw 3 x=0", 2, 9, 1, 4);
        strays("BOY, FIND 9", "draw 3 x=0", 2, 9, 9, 12);
        strays("BOY, as much held", "hold 9 x=0", 2, 0, 9, 0);
        strays("BOY, one more held", "hold 10 x=0", 2, 0, 9, -1);
    }

    /** SWINDLER: DRIFT, if the FIND there is more than v, else 0. */
    private static void swindlerByMoreThanV() {
        for (int kind : new int[] {3, 6}) {
            int row = kind == 6 ? -4 : 0;
            strays("no FIND, v 0", "draw 7 x=0", kind, 0, 0, row);
            strays("FIND 1, v 0", "draw 7 x=0", kind, 0, 1, 7 + row);
            strays("FIND as v", "draw 7 x=0", kind, 5, 5, row);
            strays("FIND one more than v", "draw 7 x=0", kind, 5, 6, 7 + row);
            strays("FIND one less than v", "draw 7 x=0", kind, 5, 4, row);
            strays("FIND 9, v 8", "hold 7 x=0", kind, 8, 9, -7 + row);
            strays("FIND 9, v 9", "hold 7 x=0", kind, 9, 9, row);
        }
    }

    /** VETERAN: as FARMER, less v. */
    private static void veteranLessV() {
        strays("VETERAN, v 0", "draw 18 x=0", 4, 0, 9, 9);
        strays("VETERAN, v 8", "draw 18 x=0", 4, 8, 9, 1);
        strays("VETERAN, v 9", "draw 18 x=0", 4, 9, 9, 0);
        strays("VETERAN, v 9, cut ahead", "draw 17 x=0", 4, 9, 9, -1);
        strays("VETERAN, v 9, held", "hold 17 x=0", 4, 9, 9, -17);
    }

    /** DREAMER: as BOY, but 0 less that, if YEAR is odd. */
    private static void dreamerInOddYears() {
        StraightFurrow x = one("draw 3 x=0;hold 3 x=1", 5, 9);
        x.lay(0, 2);
        int[][] due = {{0, 5, -3}, {1, -5, 3}, {2, 5, -3}, {9, -5, 3}, {10, 5, -3}, {11, -5, 3}};
        for (int[] row : due) {
            x.pass(row[0] - x.told(0));
            DUE.is("T1 DREAMER in YEAR " + row[0], x.strays(0, 0, 4), row[1]);
            DUE.is("T1 DREAMER in YEAR " + row[0] + ", held", x.strays(0, 1, 4), row[2]);
            DUE.is("T1 DREAMER in YEAR " + row[0] + ", 0", x.strays(0, 2, 4), 0);
        }
        StraightFurrow late = lateDreamer();
        DUE.is("T1 DREAMER in YEAR 9999", late.strays(0, 0, 4), -1);
    }

    private static StraightFurrow lateDreamer() {
        StraightFurrow x = one("draw 1 x=0", 5, 0);
        for (int i = 0; i < 166; i++) {
            x.pass(60);
        }
        x.pass(39);
        return x;
    }

    /** TOLD: as SWINDLER, and its ROW at STEP modulo 4, less 4. */
    private static void toldByItsRow() {
        StraightFurrow x = one("draw 1 x>7", 6, 8);
        int[] row = {0, 3, 5, 9};
        for (int k = 0; k < 4; k++) {
            x.row(0, k, row[k]);
        }
        x.lay(8, 9);
        x.lay(11, 8);
        int[] due = {-4, -1, 1, 5, -4, -1, 1, 5, -3, -1, 1, 5};
        for (int step = 0; step < 12; step++) {
            DUE.is("T1 TOLD at STEP " + step, x.strays(0, step, 4), due[step]);
        }
        x.row(0, 0, 4);
        DUE.is("T1 TOLD, ROW 4 less 4", x.strays(0, 4, 4), 0);
    }

    /** The LANE 1 more, if what it STRAYS there is above 0, 1 less, if below 0. */
    private static void changesByTheSign() {
        StraightFurrow x = one("draw 1 x=1;draw 99 x=3;hold 1 x=5;hold 99 x=7;draw 0 x=9", 0, 0);
        int[] due = {4, 4, 5, 5, 6, 6, 5, 5, 4, 4, 4, 4, 4};
        for (int step = 0; step <= 12; step++) {
            DUE.is("T1 1 more, 1 less, or none at STEP " + step, x.line(0, 4, 10 + step), due[step]);
        }
        DUE.is("T1 it is in that LANE at STEP 0", x.line(0, 8, 10), 8);
    }

    /** (LANES below 0 or above 8: the one it is in) */
    private static void hedges() {
        StraightFurrow up = one("draw 1 x=0", 0, 0);
        DUE.is("T1 from 7 up to 8", up.line(0, 7, 11), 8);
        DUE.is("T1 from 8 no more up", up.line(0, 8, 11), 8);
        DUE.is("T1 that is a change", up.line(0, 7, 0), 1);
        DUE.is("T1 that is none", up.line(0, 8, 0), 0);
        StraightFurrow down = one("hold 1 x=0", 0, 0);
        DUE.is("T1 from 1 down to 0", down.line(0, 1, 11), 0);
        DUE.is("T1 from 0 no more down", down.line(0, 0, 11), 0);
        DUE.is("T1 that is a change", down.line(0, 1, 0), 1);
        DUE.is("T1 that is none", down.line(0, 0, 0), 0);
    }

    /** OFF: how many STEPS change the LANE: 0 to 12. */
    private static void off() {
        DUE.is("T1 OFF, no STEP", one("", 0, 0).line(0, 4, 0), 0);
        DUE.is("T1 OFF, the first STEP", one("draw 1 x=0", 0, 0).line(0, 4, 0), 1);
        DUE.is("T1 OFF, the last STEP", one("draw 1 x=11", 0, 0).line(0, 4, 0), 1);
        DUE.is("T1 OFF, no STEP 12", one("draw 1 x=12", 0, 0).line(0, 4, 0), 0);
        DUE.is("T1 OFF, all STEPS", one("draw 1 l=4;hold 1 l=5", 0, 0).line(0, 4, 0), 12);
        DUE.is("T1 OFF, as far as the hedge", one("draw 1 x<12", 0, 0).line(0, 0, 0), 8);
    }

    /** BENDS: how often a STEP that changes it does so otherwise (up, down): 0 to 11. */
    private static void bends() {
        DUE.is("T1 BENDS, no change", one("", 0, 0).line(0, 4, 1), 0);
        DUE.is("T1 BENDS, one change up", one("draw 1 x=0", 0, 0).line(0, 4, 1), 0);
        DUE.is("T1 BENDS, one change down", one("hold 1 x=0", 0, 0).line(0, 4, 1), 0);
        DUE.is("T1 BENDS, all up", one("draw 1 x<12", 0, 0).line(0, 0, 1), 0);
        DUE.is("T1 BENDS, all down", one("hold 1 x<12", 0, 0).line(0, 8, 1), 0);
        DUE.is("T1 BENDS, up and down", one("draw 1 x=0;hold 1 x=1", 0, 0).line(0, 4, 1), 1);
        DUE.is("T1 BENDS, down and up", one("hold 1 x=0;draw 1 x=1", 0, 0).line(0, 4, 1), 1);
        DUE.is("T1 BENDS, at the last STEP", one("hold 1 x=10;draw 1 x=11", 0, 0).line(0, 4, 1), 1);
        DUE.is("T1 BENDS, all but the first", one("draw 1 l=4;hold 1 l=5", 0, 0).line(0, 4, 1), 11);
    }

    /** .. than the latest one ahead that did: STEPS that change nothing, by 0 or by the hedge, are not looked at. */
    private static void bendsBehindAPause() {
        StraightFurrow x = one("draw 1 x=0;hold 1 x=11", 0, 0);
        DUE.is("T1 BENDS behind ten that change nothing", x.line(0, 4, 1), 1);
        StraightFurrow same = one("draw 1 x=0;draw 1 x=11", 0, 0);
        DUE.is("T1 no BEND behind ten that change nothing", same.line(0, 4, 1), 0);
        StraightFurrow hedge = one("draw 1 x=1;hold 1 x=0;hold 1 x=2", 0, 0);
        DUE.is("T1 BENDS, the first held by the hedge", hedge.line(0, 0, 1), 1);
        DUE.is("T1 BENDS, none held", hedge.line(0, 4, 1), 2);
        StraightFurrow top = one("draw 1 x=0|x=2;hold 1 x=4", 0, 0);
        DUE.is("T1 BENDS, a second one up held by the hedge", top.line(0, 7, 1), 1);
        StraightFurrow turned = one("draw 1 x=0;hold 1 x=4|x=8", 0, 0);
        DUE.is("T1 BENDS by the latest, not by the first", turned.line(0, 4, 1), 1);
    }

    /** SPAN: by how much the LANE in the end is not the first: 0 to 8. */
    private static void span() {
        DUE.is("T1 SPAN 0", one("", 0, 0).line(0, 4, 2), 0);
        DUE.is("T1 SPAN 0, up and down", one("draw 1 x=0;hold 1 x=1", 0, 0).line(0, 4, 2), 0);
        DUE.is("T1 SPAN 1 up", one("draw 1 x=11", 0, 0).line(0, 4, 2), 1);
        DUE.is("T1 SPAN 1 down", one("hold 1 x=11", 0, 0).line(0, 4, 2), 1);
        DUE.is("T1 SPAN 8 up", one("draw 1 x<12", 0, 0).line(0, 0, 2), 8);
        DUE.is("T1 SPAN 8 down", one("hold 1 x<12", 0, 0).line(0, 8, 2), 8);
        DUE.is("T1 SPAN 7 down", one("hold 1 x<12", 0, 0).line(0, 7, 2), 7);
    }

    /** SCORE: 40, less OFF, twice BENDS, SPAN: 40 at most, 6 at least. */
    private static void score() {
        DUE.is("T1 SCORE, the most", one("", 0, 0).line(0, 4, 3), 40);
        DUE.is("T1 SCORE, OFF and SPAN 1", one("draw 1 x=0", 0, 0).line(0, 4, 3), 38);
        DUE.is("T1 SCORE, OFF 2, a BEND", one("draw 1 x=0;hold 1 x=1", 0, 0).line(0, 4, 3), 36);
        DUE.is("T1 SCORE, OFF and SPAN 8", one("draw 1 x<12", 0, 0).line(0, 0, 3), 24);
        DUE.is("T1 SCORE, the least", one("draw 1 l=4;hold 1 l=5", 0, 0).line(0, 4, 3), 6);
        DUE.is("T1 SCORE, the least, from the hedge", one("draw 1 l=0;hold 1 l=1", 0, 0).line(0, 0, 3), 6);
    }

    /** BELIEVED are just those whose SCORE is PASS or more. */
    private static void believedAtPass() {
        int[][] due = {{0, 7}, {6, 7}, {7, 6}, {38, 6}, {39, 4}, {40, 4}, {41, 0}, {99, 0}};
        for (int[] row : due) {
            StraightFurrow x = Due.in("pass " + row[0] + ";draw 1 p=0&l=4;hold 1 p=0&l=5;draw 1 p=1&x=0");
            for (int man = 0; man < 3; man++) {
                x.man(0, 0, 4);
            }
            x.pass(1);
            DUE.is("T1 of SCORES 6, 38, 40 BELIEVED by PASS " + row[0], x.told(2), row[1]);
            DUE.is("15: the same, looked ahead", x.on(1, 0), row[1]);
        }
        StraightFurrow x = one("draw 1 x<5", 0, 0);
        x.peg(0, 3);
        x.pass(1);
        DUE.is("T1 SCORE 30 by PASS without", x.told(2), 1);
        x.peg(0, 2);
        Due.parish(x, "draw 1 x<5;draw 1 x=5");
        x.pass(1);
        DUE.is("T1 SCORE 28 by PASS without", x.told(2), 0);
    }

    /** (AWAY ones are not) */
    private static void awayOnesAreNot() {
        StraightFurrow x = one("pass 0", 0, 0);
        x.man(0, 0, 4);
        x.away(0, true);
        x.pass(1);
        DUE.is("T1 BELIEVED is the one not AWAY", x.told(2), 2);
        x.away(0, false);
        x.away(1, true);
        x.pass(1);
        DUE.is("T1 BELIEVED is the other one", x.told(2), 1);
        x.away(0, true);
        x.pass(1);
        DUE.is("T1 nobody is BELIEVED, all being AWAY", x.told(2), 0);
    }

    /** WINS of the one with the greatest SCORE (of several the first) is 1 more. */
    private static void firstOfSeveralWins() {
        StraightFurrow x = Due.in("draw 1 p=0&x=0;draw 1 p=4&x=0");
        for (int man = 0; man < 6; man++) {
            x.man(0, 0, 4);
        }
        wins(x, "of 1, 2, 3, 5 the first", 0, 1, 0, 0, 0, 0);
        x.away(1, true);
        wins(x, "of 2, 3, 5 the first", 0, 1, 1, 0, 0, 0);
        x.away(2, true);
        x.away(3, true);
        wins(x, "the last alone", 0, 1, 1, 0, 0, 1);
        x.away(5, true);
        wins(x, "of 0 and 4 the first", 1, 1, 1, 0, 0, 1);
        x.away(0, true);
        wins(x, "4 alone", 1, 1, 1, 0, 1, 1);
    }

    private static void wins(StraightFurrow x, String name, int... due) {
        x.pass(1);
        for (int man = 0; man < 6; man++) {
            DUE.is("T1 WINS " + name + ": of(" + man + ", 4)", x.of(man, 4), due[man]);
        }
    }

    /** Without MEN, and with all AWAY, a YEAR goes. */
    private static void nobodyWins() {
        StraightFurrow x = new StraightFurrow();
        DUE.is("12: a YEAR without MEN", x.pass(1), 1);
        DUE.is("T1 nobody is BELIEVED", x.told(2), 0);
        DUE.is("11: nobody has the greatest SCORE", x.told(4), -5);
        x.man(0, 0, 4);
        DUE.is("11: one has", x.told(4), 0);
        x.away(0, true);
        DUE.is("11: nobody, all being AWAY", x.told(4), -5);
        DUE.is("12: a YEAR with all AWAY", x.pass(1), 2);
        DUE.is("T1 WINS stay", x.of(0, 4), 0);
        x.away(0, false);
        DUE.is("12: no YEAR", x.pass(0), 2);
        DUE.is("T1 nobody wins by none", x.of(0, 4) * 10 + x.of(0, 5), 0);
    }

    private static void yearTo9999() {
        StraightFurrow x = lateDreamer();
        DUE.is("12: YEAR 9999", x.told(0), 9999);
        DUE.is("12: one more would be above", x.pass(1), -3);
        DUE.is("12: none more is not", x.pass(0), 9999);
    }

    /** BELIEVED for a YEAR: what changes then, changes that not. */
    private static void believedTillAYearGoes() {
        StraightFurrow x = one("pass 40", 2, 0);
        x.pass(1);
        x.lay(0, 9);
        x.away(0, true);
        Due.parish(x, "pass 99");
        DUE.is("T1 BELIEVED still", x.of(0, 5), 1);
        x.away(0, false);
        x.pass(1);
        DUE.is("T1 not BELIEVED then", x.of(0, 5), 0);
    }

    /** A CASE is DECIDED for the one of its two who is BELIEVED, if the other one is not. */
    private static void decided() {
        StraightFurrow x = Due.in("pass 40;draw 1 x=0&(p=1&y=1|p=0&y=2|y=3)");
        x.man(0, 0, 4);
        x.man(0, 0, 4);
        x.plead(0, 1);
        x.plead(1, 0);
        int[][] due = {{-5, -5}, {-5, -5}, {0, 0}, {1, 1}, {-5, -5}};
        for (int year = 0; year < due.length; year++) {
            DUE.is("T1 DECIDED in YEAR " + year, x.told(30), due[year][0]);
            DUE.is("T1 DECIDED the other way in YEAR " + year, x.told(31), due[year][1]);
            x.pass(1);
        }
    }
}
