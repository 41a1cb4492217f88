import java.util.function.Supplier;

/** The bounds that the second part of "Terms" names: years to come, what would be, lists told by hand. */
final class AskedBoundsTest {
    private static final Due DUE = new Due("AskedBoundsTest");
    private static final Whole WHOLE = new Whole(DUE);

    public static void main(String[] args) {
        nothingChanges(Whole::some, "some");
        nothingChanges(Whole::full, "full");
        nothingChanges(Whole::late, "YEAR 9999");
        nothingChanges(StraightFurrow::new, "new");
        yearsBeyond9999();
        winsNotHeld();
        noYearsOn();
        sixtyYearsOn();
        whenNow();
        whenLast();
        startAtTheEnds();
        startOfSeveral();
        waverAtTheEnds();
        waverLessThanItIs();
        waverInPlace();
        waverOfSeveral();
        clearAtPass();
        clearAtTheEnds();
        clearFewest();
        clearLeastAsBits();
        clearStraysOtherwise();
        clearFindsAlone();
        clearNone();
        barAtTheEnds();
        barByFour();
        triedByAllSix();
        DUE.ends();
    }

    /** All that follows .. changes nothing; and so do the questions of the first part. */
    private static void nothingChanges(Supplier<StraightFurrow> made, String name) {
        for (int man : new int[] {0, 1, 3}) {
            asked(name, made, "of", x -> x.of(man, 6) + x.of(man, 4) + x.of(man, 5));
            asked(name, made, "line", x -> x.line(man, 5, 3) + x.line(man, 0, 22));
            asked(name, made, "strays", x -> x.strays(man, 2, 5));
            asked(name, made, "start", x -> x.start(man));
            asked(name, made, "waver", x -> x.waver(man, 9) + x.waver(man, 1));
            asked(name, made, "clear", x -> x.clear(man));
            asked(name, made, "from", x -> x.from(man));
            asked(name, made, "firm", x -> x.firm(man, 0) + x.firm(man, 1));
            asked(name, made, "odds", x -> x.odds(man, 9, 0) + x.odds(man, 1, 1));
            asked(name, made, "as", x -> x.as(man, 0));
        }
        asked(name, made, "told", x -> x.told(4) + x.told(30) + x.told(12));
        asked(name, made, "on 0", x -> x.on(0, 0) + x.on(0, 10) + x.on(0, 20));
        asked(name, made, "on 60", x -> x.on(60, 0) + x.on(60, 10) + x.on(60, 20));
        asked(name, made, "when", x -> x.when(0) + x.when(1));
        asked(name, made, "bar", x -> x.bar(0) + x.bar(6));
        asked(name, made, "mean", x -> x.mean(0) + x.mean(1));
        asked(name, made, "done", x -> x.done(0) + x.done(1));
        asked(name, made, "looked", x -> x.looked());
        asked(name, made, "trace", x -> x.trace(0) + x.trace(9));
        asked(name, made, "count", x -> x.count(0) + x.count(7));
    }

    private static void asked(String state, Supplier<StraightFurrow> made, String name, Whole.Call call) {
        WHOLE.asked("T2 " + name + " where there is " + state, made, call);
    }

    private static StraightFurrow in9999(String text, int... kinds) {
        StraightFurrow x = Due.in(text);
        for (int kind : kinds) {
            x.man(kind, 0, 4);
        }
        for (int i = 0; i < 166; i++) {
            x.pass(60);
        }
        x.pass(39);
        return x;
    }

    /** .. goes on from how all is (YEAR beyond 9999 .. too). */
    private static void yearsBeyond9999() {
        StraightFurrow x = in9999("pass 40;draw 1 y=0;hold 1 y=3&p=1", 0, 0);
        x.plead(0, 1);
        DUE.is("T2 ON in YEAR 9999", x.on(1, 0), 3);
        DUE.is("T2 ON in YEAR 10000, y 0", x.on(2, 0), 0);
        DUE.is("T2 ON in YEAR 10001, y 1", x.on(3, 0), 3);
        DUE.is("T2 ON in YEAR 10003, y 3", x.on(5, 0), 1);
        DUE.is("T2 ON in YEAR 10010, y 0", x.on(12, 0), 0);
        DUE.is("T2 ON in YEAR 10058, y 8", x.on(60, 0), 3);
        DUE.is("T2 WHEN in YEAR 10003", x.when(0), 5);
        x.plan(0, 0);
        x.plan(0, 0);
        DUE.is("T2 DONE in YEAR 10000", x.done(0), 0);
        DUE.is("T2 YEAR stays", x.told(0), 9999);
        StraightFurrow odd = in9999("pass 40;draw 1 x=0;hold 1 y=9&x=0", 5);
        odd.peg(0, 8);
        DUE.is("T2 ON, a DREAMER in YEAR 9999", odd.on(1, 0), 1);
        DUE.is("T2 ON, a DREAMER in YEAR 10000, even", odd.on(2, 0), 1);
        DUE.is("T2 ON, a DREAMER in YEAR 10001, odd", odd.on(3, 0), 0);
    }

    /** .. (WINS not held, too). */
    private static void winsNotHeld() {
        StraightFurrow x = in9999("pass 40", 0, 0);
        DUE.is("T2 WINS as they are", x.on(0, 10), 9999);
        DUE.is("T2 WINS not held", x.on(1, 10), 10000);
        DUE.is("T2 WINS not held", x.on(60, 10), 10059);
        DUE.is("T2 the other's", x.on(60, 11), 0);
        DUE.is("27: WINS of all, no PLAN", x.done(1), 9999);
        for (int i = 1; i <= 8; i++) {
            x.plan(0, 0);
            DUE.is("T2 DONE, WINS not held by " + i, x.done(1), 9999 + i);
        }
        DUE.is("T2 WINS stay", x.of(0, 4), 9999);
    }

    /** Man 0 is straight but in YEARS that end in 3, man 1 in these alone. */
    private static StraightFurrow two() {
        StraightFurrow x = Due.in("pass 40;draw 1 p=0&y=3;draw 1 p=1&!y=3");
        x.man(0, 0, 4);
        x.man(0, 0, 4);
        x.plead(0, 1);
        x.plead(1, 0);
        return x;
    }

    /** ON n YEARS (0 ..): how it is. */
    private static void noYearsOn() {
        StraightFurrow x = two();
        DUE.is("T2 ON 0: BELIEVED at first", x.on(0, 0), 0);
        DUE.is("T2 ON 0: a CASE at first", x.on(0, 20), -5);
        DUE.is("T2 ON 1: BELIEVED", x.on(1, 0), 1);
        DUE.is("T2 ON 1: a CASE", x.on(1, 20), 0);
        x.pass(4);
        DUE.is("T2 ON 0: BELIEVED now", x.on(0, 0), 2);
        DUE.is("T2 ON 0: WINS now", x.on(0, 10) * 10 + x.on(0, 11), 31);
        DUE.is("T2 ON 0: a CASE now", x.on(0, 20), 1);
        DUE.is("T2 ON 0: the other now", x.on(0, 21), 1);
        x.away(1, true);
        DUE.is("T2 ON 0: BELIEVED though AWAY now", x.on(0, 0), 2);
        DUE.is("T2 ON 1: not then", x.on(1, 0), 1);
    }

    /** (.. 60) */
    private static void sixtyYearsOn() {
        StraightFurrow x = two();
        DUE.is("T2 ON 60: BELIEVED in YEAR 59", x.on(60, 0), 1);
        DUE.is("T2 ON 60: WINS", x.on(60, 10), 54);
        DUE.is("T2 ON 60: WINS of the other", x.on(60, 11), 6);
        DUE.is("T2 ON 54: BELIEVED in YEAR 53", x.on(54, 0), 2);
        DUE.is("T2 ON 54: a CASE", x.on(54, 20), 1);
        DUE.is("T2 ON 61", x.on(61, 0), -2);
        DUE.is("T2 ON -1", x.on(-1, 0), -2);
        x.pass(60);
        DUE.is("12: the same, gone", x.of(0, 4) * 100 + x.of(1, 4), 5406);
    }

    /** WHEN: the fewest YEARS (0 ..). */
    private static void whenNow() {
        StraightFurrow x = two();
        DUE.is("T2 WHEN, behind one", x.when(0), 1);
        DUE.is("T2 WHEN, behind four", x.when(1), 4);
        x.pass(1);
        DUE.is("T2 WHEN, behind none", x.when(0), 0);
        DUE.is("T2 WHEN, behind three", x.when(1), 3);
        x.pass(3);
        DUE.is("T2 WHEN, behind none", x.when(1), 0);
        DUE.is("T2 WHEN, behind one", x.when(0), 1);
    }

    /** Behind ten YEARS at most, as they come again then, or never (-5: not by then). */
    private static void whenLast() {
        StraightFurrow x = two();
        x.pass(4);
        x.away(0, true);
        x.pass(1);
        DUE.is("T2 WHEN, never for one who is AWAY", x.when(0), -5);
        DUE.is("T2 WHEN, behind nine", x.when(1), 9);
        x.pass(9);
        x.away(1, true);
        x.pass(1);
        DUE.is("T2 WHEN, never, both being AWAY", x.when(0), -5);
        DUE.is("T2 WHEN, never, both being AWAY", x.when(1), -5);
        StraightFurrow last = Due.in("pass 40;draw 1 p=0&!y=9");
        last.man(0, 0, 4);
        last.man(2, 0, 4);
        last.lay(0, 1);
        last.plead(0, 1);
        last.plead(1, 0);
        DUE.is("T2 WHEN, behind ten", last.when(0), 10);
        DUE.is("T2 WHEN, never", last.when(1), -5);
        DUE.is("T2 ON, not by nine", last.on(9, 20), -5);
        DUE.is("T2 ON, by ten", last.on(10, 20), 0);
    }

    private static StraightFurrow one(String text, int kind) {
        StraightFurrow x = Due.in(text);
        x.man(kind, 0, 4);
        return x;
    }

    /** START: the LANE from which SCORE is greatest this YEAR: of all nine. */
    private static void startAtTheEnds() {
        DUE.is("T2 START 8", one("draw 1 l<8", 0).start(0), 8);
        DUE.is("T2 START 0", one("hold 1 l>0", 0).start(0), 0);
        DUE.is("T2 START 7", one("draw 1 l<7;hold 1 l=8", 0).start(0), 7);
        StraightFurrow x = one("draw 1 l<8&y=0;hold 1 l>0&y=1", 0);
        DUE.is("T2 START this YEAR", x.start(0), 8);
        x.pass(1);
        DUE.is("T2 START the next", x.start(0), 0);
    }

    /** (of several the first) */
    private static void startOfSeveral() {
        DUE.is("T2 START, all alike", one("pass 1", 0).start(0), 0);
        DUE.is("T2 START, 1 and 8 alike", one("draw 1 l=0|l>1&l<8", 0).start(0), 1);
        DUE.is("T2 START, 7 and 8 alike", one("draw 1 l<7", 0).start(0), 7);
        DUE.is("T2 START, none straight", one("draw 1 l=4;hold 1 l=5;draw 1 x=0&l<4;hold 1 x=0&l>5", 0).start(0), 0);
    }

    /** WAVER: the STEP at which .. its SCORE from its PEG would be least: of all twelve. */
    private static void waverAtTheEnds() {
        StraightFurrow last = one("hold 9 x<11", 2);
        last.peg(0, 0);
        DUE.is("T2 WAVER at STEP 11", last.waver(0, 9), 11);
        DUE.is("T2 WAVER at STEP 11 by 1", last.waver(0, 1), 11);
        StraightFurrow first = one("hold 9 x>0", 2);
        first.peg(0, 0);
        DUE.is("T2 WAVER at STEP 0, to be held back", first.waver(0, 9), 0);
        DUE.is("T2 WAVER at STEP 0 by 1", first.waver(0, 1), 0);
    }

    /** .. if less than it is (-5: none). */
    private static void waverLessThanItIs() {
        StraightFurrow x = one("pass 1", 2);
        x.peg(0, 8);
        DUE.is("T2 WAVER, no less by the hedge", x.waver(0, 9), -5);
        x.peg(0, 7);
        DUE.is("T2 WAVER, less", x.waver(0, 9), 0);
        DUE.is("T2 WAVER, a MAN is not moved", one("pass 1", 0).waver(0, 9), -5);
        StraightFurrow more = one("draw 1 f=0&x<5", 0);
        DUE.is("T2 WAVER, more alone", more.waver(0, 9), -5);
    }

    /** (in place of what lies) */
    private static void waverInPlace() {
        StraightFurrow x = one("hold 4 x<12", 2);
        x.lay(3, 4);
        x.peg(0, 0);
        DUE.is("T2 WAVER by 5, where nothing lies", x.waver(0, 5), 0);
        for (int step = 0; step < 12; step++) {
            x.lay(step, 5);
        }
        x.peg(0, 4);
        DUE.is("T2 WAVER by 5, all being 5", x.waver(0, 5), -5);
        DUE.is("T2 WAVER by 9, likewise up", x.waver(0, 9), -5);
        DUE.is("T2 WAVER by 3 in place of a 5: down, at 1 with two BENDS", x.waver(0, 3), 1);
        DUE.is("T2 WAVER: what lies stays", x.told(11), 5);
    }

    /** (of several the first) */
    private static void waverOfSeveral() {
        StraightFurrow x = one("draw 2 x=4;hold 1 x=6", 2);
        DUE.is("T2 its SCORE", x.of(0, 6), 36);
        // Up at 4, down at 6, and up again behind it: 32 by 7 to 11; a 1 at 6 holds it: 38
        DUE.is("T2 WAVER of five the first", x.waver(0, 1), 7);
    }

    /** CLEAR: .. let its SCORE from its PEG be PASS or more. */
    private static void clearAtPass() {
        for (int pass = 36; pass <= 41; pass++) {
            StraightFurrow x = one("pass " + pass, 2);
            x.lay(3, 1);
            x.lay(8, 1);
            int[] due = {0, 8, 8, 8 | 256, 8 | 256, -5};
            DUE.is("T2 CLEAR by PASS " + pass, x.clear(0), due[pass - 36]);
        }
    }

    /** STEPS as bits: the first and the last; all, and none. */
    private static void clearAtTheEnds() {
        StraightFurrow x = one("pass 40", 2);
        DUE.is("T2 CLEAR, none", x.clear(0), 0);
        x.lay(11, 9);
        DUE.is("T2 CLEAR, STEP 11", x.clear(0), 2048);
        x.lay(0, 1);
        DUE.is("T2 CLEAR, both", x.clear(0), 2049);
        x.lay(11, 0);
        DUE.is("T2 CLEAR, STEP 0", x.clear(0), 1);
        x.peg(0, 0);
        for (int step = 0; step < 12; step++) {
            x.lay(step, 1);
        }
        DUE.is("T2 CLEAR, all", x.clear(0), 4095);
    }

    /** The set with the fewest STEPS: up at 0, 1 and 8, down at 5. */
    private static void clearFewest() {
        StraightFurrow x = one("pass 30;draw 1 f=1;hold 1 f=2", 0);
        x.lay(0, 1);
        x.lay(1, 1);
        x.lay(5, 2);
        x.lay(8, 1);
        DUE.is("T2 its SCORE", x.of(0, 6), 40 - 4 - 4 - 2);
        // 32 is one STEP, 3 two, though less as bits
        int[] passes = {34, 36, 38, 40};
        int[] due = {1 << 5, 1 | 2, 1 | 2 | 1 << 5, 1 | 2 | 1 << 5 | 1 << 8};
        for (int i = 0; i < passes.length; i++) {
            Due.parish(x, "pass " + passes[i] + ";draw 1 f=1;hold 1 f=2");
            DUE.is("T2 CLEAR, the fewest by PASS " + x.told(1), x.clear(0), due[i]);
        }
    }

    /** (of several the least as bits) */
    private static void clearLeastAsBits() {
        StraightFurrow x = one("pass 36", 2);
        x.lay(2, 5);
        x.lay(5, 1);
        x.lay(9, 9);
        DUE.is("T2 CLEAR, of three the least", x.clear(0), 1 << 2);
        Due.parish(x, "pass 38");
        DUE.is("T2 CLEAR, of three pairs the least", x.clear(0), 1 << 2 | 1 << 5);
        x.lay(2, 0);
        Due.parish(x, "pass 38");
        DUE.is("T2 CLEAR, of two the least", x.clear(0), 1 << 5);
        // Six pairs let it be 34: 1 and 2 are the least as bits, 0 and 3 have the least STEP
        StraightFurrow y = one("pass 34;draw 1 f=1;hold 1 f=2", 0);
        int[] finds = {1, 2, 2, 1, 2};
        for (int step = 0; step < finds.length; step++) {
            y.lay(step, finds[step]);
        }
        DUE.is("T2 its SCORE", y.of(0, 6), 28);
        DUE.is("T2 CLEAR, of six pairs the least", y.clear(0), 6);
    }

    /** .. were no FIND there: it may stray there all the same, and otherwise. */
    private static void clearStraysOtherwise() {
        StraightFurrow x = one("pass 36;draw 1 x=0&f=0;hold 1 x=0&f=1;hold 1 x=1;hold 1 x=5&l=2", 0);
        x.lay(0, 1);
        DUE.is("T2 its SCORE, three down", x.of(0, 6), 34);
        DUE.is("T2 CLEAR, up and down then", x.clear(0), 1);
        StraightFurrow y = one("pass 36;hold 1 x=0&f=0;draw 1 x=0&f=1;draw 1 x=1;draw 1 x=5&l=6", 0);
        y.lay(0, 1);
        DUE.is("T2 its SCORE, three up", y.of(0, 6), 34);
        DUE.is("T2 CLEAR, down and up then", y.clear(0), 1);
    }

    /** What is tried goes by all six MEN, with all of each: ROWS of the last, too. */
    private static void triedByAllSix() {
        StraightFurrow x = Due.in("pass 40;draw 1 f=9");
        for (int man = 0; man < 6; man++) {
            x.man(6, 0, 4);
            for (int k = 0; k < 4; k++) {
                x.row(man, k, 4);
            }
        }
        x.row(5, 3, 5);
        x.plan(0, 0);
        DUE.is("T2 ON: the last is not straight by his ROW", x.on(1, 0), 31);
        DUE.is("T2 DONE: the same", x.done(0), 31);
        x.row(5, 3, 4);
        DUE.is("T2 ON: all are straight", x.on(1, 0), 63);
        DUE.is("T2 ON: the first of six wins", x.on(60, 10) * 100 + x.on(60, 15), 6000);
        for (int man = 0; man < 6; man++) {
            DUE.is("T2 WAVER of " + man, x.waver(man, 9), 0);
            DUE.is("T2 ODDS of " + man, x.odds(man, 8, 0), 1);
            DUE.is("T2 CLEAR of " + man, x.clear(man), 0);
            DUE.is("T2 START of " + man, x.start(man), 0);
            DUE.is("T2 FIRM of " + man, x.firm(man, 0), 10);
        }
        DUE.is("33: image()", x.image(), 6);
        for (int k = 0; k < 4; k++) {
            x.row(5, k, k);
        }
        DUE.is("34: undo()", x.undo(), 6);
        for (int k = 0; k < 4; k++) {
            DUE.is("34: ROW of the last is as ahead: " + k, x.row(5, k, 0), 4);
        }
    }

    /** (of STEPS with FINDS alone) */
    private static void clearFindsAlone() {
        StraightFurrow x = one("pass 40;draw 1 x=3", 0);
        DUE.is("T2 CLEAR without FINDS", x.clear(0), -5);
        x.lay(3, 1);
        DUE.is("T2 CLEAR, it draws anyway", x.clear(0), -5);
        StraightFurrow y = one("pass 40;draw 1 f=9", 0);
        y.lay(0, 8);
        y.lay(4, 9);
        y.lay(6, 8);
        DUE.is("T2 CLEAR, one of three FINDS", y.clear(0), 1 << 4);
    }

    /** (-5: none) */
    private static void clearNone() {
        DUE.is("T2 CLEAR by PASS 40", one("pass 40", 2).clear(0), 0);
        DUE.is("T2 CLEAR by PASS 41", one("pass 41", 2).clear(0), -5);
        DUE.is("T2 CLEAR by PASS 99", one("pass 99", 2).clear(0), -5);
        StraightFurrow x = one("pass 0;draw 1 l=4;hold 1 l=5", 0);
        DUE.is("T2 CLEAR by PASS 0", x.clear(0), 0);
        Due.parish(x, "pass 6;draw 1 l=4;hold 1 l=5");
        DUE.is("T2 CLEAR by the least SCORE", x.clear(0), 0);
        Due.parish(x, "pass 7;draw 1 l=4;hold 1 l=5");
        DUE.is("T2 CLEAR by one more", x.clear(0), -5);
    }

    /** BAR: the least number (0 ..) by which .. no more than q had a SCORE of that or more. */
    private static void barAtTheEnds() {
        StraightFurrow x = new StraightFurrow();
        DUE.is("T2 BAR of 0 without MEN", x.bar(0), 0);
        x.man(0, 0, 4);
        DUE.is("T2 BAR of 0, one straight", x.bar(0), 41);
        DUE.is("T2 BAR of 1", x.bar(1), 0);
        for (int man = 1; man < 6; man++) {
            x.man(0, 0, 4);
        }
        DUE.is("T2 BAR of 5, six alike", x.bar(5), 41);
        DUE.is("T2 BAR of 6", x.bar(6), 0);
        DUE.is("T2 BAR of 7", x.bar(7), -2);
        DUE.is("T2 BAR of -1", x.bar(-1), -2);
        x.away(2, true);
        DUE.is("T2 BAR of 5, one of six AWAY", x.bar(5), 0);
        DUE.is("T2 BAR of 4", x.bar(4), 41);
        Due.parish(x, "draw 1 l=4;hold 1 l=5");
        DUE.is("T2 BAR of 4, all by 6", x.bar(4), 7);
        for (int man = 0; man < 6; man++) {
            x.away(man, true);
        }
        DUE.is("T2 BAR of 0, all AWAY", x.bar(0), 0);
    }

    /** Four of SCORES 40, 38, 38, 36. */
    private static void barByFour() {
        StraightFurrow x = Due.in("draw 1 x=0&(p=1|p=2);draw 1 x<2&p=3");
        for (int man = 0; man < 4; man++) {
            x.man(0, 0, 4);
        }
        int[] due = {41, 39, 39, 37, 0, 0, 0};
        for (int q = 0; q <= 6; q++) {
            DUE.is("T2 BAR of " + q, x.bar(q), due[q]);
        }
    }
}
