/** The bounds that "Terms" and promises 21 to 29 name of what is told by hand, of odds and of means. */
final class ListBoundsTest {
    private static final Due DUE = new Due("ListBoundsTest");
    private static final int MOST = Integer.MAX_VALUE, LEAST = Integer.MIN_VALUE;

    public static void main(String[] args) {
        fiveSeen();
        seenAtTheEnds();
        seenThisYear();
        noneSeenThen();
        fromAtTheEnds();
        firmAtTheEnds();
        oddsAtTheEnds();
        oddsInPlace();
        meanInLowestTerms();
        eightRowsOfAPlan();
        rowsOfAPlan();
        noPlanThen();
        doneAtTheEnds();
        eightRowsOfABook();
        noBookThen();
        lookedAtTheEnds();
        DUE.ends();
    }

    private static StraightFurrow one(String text, int kind) {
        StraightFurrow x = Due.in(text);
        x.man(kind, 0, 4);
        return x;
    }

    /** SEEN .. 5 at most. */
    private static void fiveSeen() {
        StraightFurrow x = one("draw 1 x=0", 0);
        DUE.is("T2 SEEN at first", x.count(3), 0);
        for (int i = 0; i < 5; i++) {
            DUE.is("T2 SEEN " + i, x.see(0, 0, i < 4 ? 6 : 7), i + 1);
            DUE.is("T2 FROM by " + (i + 1), x.from(0), i < 4 ? 64 : 0);
        }
        DUE.is("T2 5 SEEN at most", x.see(0, 0, 6), -4);
        DUE.is("T2 5 SEEN still", x.count(3), 5);
        DUE.is("21: none then", x.see(-1, 0, 0), 0);
        DUE.is("21: one comes again", x.see(0, 0, 6), 1);
        DUE.is("T2 FROM, the fifth being forgotten", x.from(0), 64);
    }

    /** A STEP (0 .. 12; 12: behind the last), the LANE it was in there (0 .. 8). */
    private static void seenAtTheEnds() {
        StraightFurrow x = one("draw 1 x=11", 0);
        DUE.is("T2 SEEN at STEP 11", x.see(0, 11, 4), 1);
        DUE.is("T2 FROM by STEP 11", x.from(0), 16);
        DUE.is("T2 SEEN at STEP 12", x.see(0, 12, 5), 2);
        DUE.is("T2 FROM by both", x.from(0), 16);
        DUE.is("T2 SEEN at STEP 0", x.see(0, 0, 4), 3);
        DUE.is("T2 FROM by all three", x.from(0), 16);
        DUE.is("T2 SEEN at STEP 13", x.see(0, 13, 5), -1);
        DUE.is("T2 SEEN at STEP -1", x.see(0, -1, 4), -1);
        x.see(-1, 0, 0);
        DUE.is("T2 SEEN in LANE 0", x.see(0, 0, 0), 1);
        DUE.is("T2 FROM LANE 0", x.from(0), 1);
        x.see(-1, 0, 0);
        DUE.is("T2 SEEN in LANE 8", x.see(0, 0, 8), 1);
        DUE.is("T2 FROM LANE 8", x.from(0), 256);
        DUE.is("T2 SEEN in LANE 9", x.see(0, 0, 9), -1);
        DUE.is("T2 SEEN in LANE -1", x.see(0, 0, -1), -1);
    }

    /** .. this YEAR. */
    private static void seenThisYear() {
        StraightFurrow x = one("draw 1 x=0&y=1", 0);
        x.see(0, 12, 5);
        DUE.is("T2 FROM in YEAR 0", x.from(0), 1 << 5);
        x.pass(1);
        DUE.is("T2 FROM in YEAR 1", x.from(0), 1 << 4);
        x.pass(1);
        DUE.is("T2 FROM in YEAR 2", x.from(0), 1 << 5);
    }

    /** (man -1: none then, 0, whatever the others are) */
    private static void noneSeenThen() {
        int[][] others = {{0, 0}, {-1, -1}, {13, 9}, {MOST, LEAST}, {LEAST, MOST}};
        for (int[] row : others) {
            StraightFurrow x = one("pass 1", 0);
            DUE.is("21: see(-1) of none", x.see(-1, row[0], row[1]), 0);
            for (int i = 0; i < 5; i++) {
                x.see(0, 1, i);
            }
            DUE.is("21: see(-1) of five", x.see(-1, row[0], row[1]), 0);
            DUE.is("21: none", x.count(3), 0);
            DUE.is("21: nothing is SEEN of him", x.from(0), 511);
        }
        DUE.is("21: see(-1) without MEN", new StraightFurrow().see(-1, 0, 0), 0);
        DUE.is("21: see(-2)", new StraightFurrow().see(-2, 0, 0), -1);
    }

    /** FROM: all LANES, none, the first and the last alone; and of him alone. */
    private static void fromAtTheEnds() {
        StraightFurrow x = one("draw 1 x<8", 0);
        x.man(0, 0, 4);
        DUE.is("T2 FROM, nothing SEEN", x.from(0), 511);
        x.see(0, 12, 8);
        DUE.is("T2 FROM, all come to the hedge", x.from(0), 511);
        DUE.is("T2 FROM, of the other nothing", x.from(1), 511);
        x.see(1, 8, 8);
        x.see(0, 7, 8);
        DUE.is("T2 FROM, all but LANE 0", x.from(0), 510);
        x.see(0, 1, 8);
        DUE.is("T2 FROM, 7 and 8", x.from(0), 384);
        x.see(0, 12, 0);
        DUE.is("T2 FROM, none", x.from(0), 0);
        DUE.is("T2 FROM, the other still", x.from(1), 511);
    }

    /** FIRM: how many numbers v (0 .. 9) likewise; the least (-5: none). */
    private static void firmAtTheEnds() {
        firm("v 0 to 9, nothing SEEN", "pass 1", -1, 10, 0);
        firm("v 0 alone", "draw 2 x=0", 5, 1, 0);
        firm("v 9 alone", "draw 18 x=0", 4, 1, 9);
        firm("v 8 and 9", "draw 16 x=0;hold 99 x=9", 5, 8, 0);
        firm("v 8 at least, down", "draw 15 x=0", 3, 2, 8);
        firm("none", "draw 18 x=0", 3, 0, -5);
        firm("v 9 would go down by one less", "draw 17 x=0", 3, 1, 9);
    }

    /** Of a VETERAN, who is SEEN in a LANE behind STEP 0 (-1: he is not). */
    private static void firm(String name, String text, int lane, int many, int least) {
        StraightFurrow x = one(text, 4);
        x.man(4, 0, 0);
        if (lane >= 0) {
            x.see(0, 1, lane);
        }
        DUE.is("T2 FIRM, " + name + ": how many", x.firm(0, 0), many);
        DUE.is("T2 FIRM, " + name + ": the least", x.firm(0, 1), least);
        DUE.is("T2 FIRM of the other", x.firm(1, 0), 10);
        DUE.is("T2 FIRM: v stays", x.of(0, 1), 0);
    }

    /** ODDS: .. a fraction in lowest terms: none, one, some and all of 12. */
    private static void oddsAtTheEnds() {
        String[] texts = {"pass 41", "pass 40;hold 9 x=0", "pass 40;hold 9 x<2", "pass 40;hold 9 x<3",
            "pass 40;hold 9 x<4", "pass 40;hold 9 x<5", "pass 40;hold 9 x<6", "pass 40;hold 9 x<11", "pass 40;hold 9 x<12"};
        int[] above = {0, 1, 1, 1, 1, 5, 1, 11, 1};
        int[] below = {1, 12, 6, 4, 3, 12, 2, 12, 1};
        for (int i = 0; i < texts.length; i++) {
            for (int n : new int[] {1, 9}) {
                StraightFurrow x = one(texts[i], 2);
                x.peg(0, 0);
                DUE.is("T2 ODDS by " + n + ", above: " + texts[i], x.odds(0, n, 0), above[i]);
                DUE.is("T2 ODDS by " + n + ", below: " + texts[i], x.odds(0, n, 1), below[i]);
            }
        }
        StraightFurrow x = one("pass 38", 2);
        DUE.is("T2 ODDS, his SCORE is PASS", x.odds(0, 1, 0), 1);
        Due.parish(x, "pass 39");
        DUE.is("T2 ODDS, it is one less", x.odds(0, 1, 0), 0);
    }

    /** If a FIND of n lies at one STEP .. in place of what lies there. */
    private static void oddsInPlace() {
        StraightFurrow x = one("pass 40;hold 1 f=5;draw 1 f=4", 0);
        x.lay(7, 5);
        DUE.is("T2 ODDS by 1, in place of the 5 alone", x.odds(0, 1, 0) * 100 + x.odds(0, 1, 1), 112);
        DUE.is("T2 ODDS by 5", x.odds(0, 5, 0), 0);
        DUE.is("T2 ODDS by 4", x.odds(0, 4, 0), 0);
        DUE.is("T2 it lies still", x.told(17), 5);
    }

    /** MEAN: .. together, by how many they are: a fraction in lowest terms. */
    private static void meanInLowestTerms() {
        StraightFurrow x = Due.in("draw 1 x=0&p>0");
        int[] above = {40, 39, 116, 77, 192, 115};
        int[] below = {1, 1, 3, 2, 5, 3};
        for (int man = 0; man < 6; man++) {
            x.man(0, 0, 4);
            DUE.is("T2 MEAN of " + (man + 1) + ", above", x.mean(0), above[man]);
            DUE.is("T2 MEAN of " + (man + 1) + ", below", x.mean(1), below[man]);
        }
        x.away(0, true);
        DUE.is("T2 MEAN of five not AWAY", x.mean(0) * 10 + x.mean(1), 381);
        for (int man = 1; man < 5; man++) {
            x.away(man, true);
        }
        x.peg(5, 8);
        DUE.is("T2 MEAN of the last, from its PEG", x.mean(0) * 10 + x.mean(1), 401);
        x.away(5, true);
        DUE.is("T2 MEAN, there are none", x.mean(0), Long.MIN_VALUE);
        StraightFurrow least = one("draw 1 l=4;hold 1 l=5", 0);
        DUE.is("T2 MEAN of the least SCORE", least.mean(0) * 10 + least.mean(1), 61);
    }

    /** A PLAN .. 8 at most. */
    private static void eightRowsOfAPlan() {
        StraightFurrow x = one("pass 1", 0);
        DUE.is("T2 no PLAN at first", x.count(4), 0);
        for (int i = 0; i < 8; i++) {
            DUE.is("T2 row " + i + " of the PLAN", x.plan(0, 0), i + 1);
            DUE.is("T2 DONE by " + (i + 1), x.done(1), i + 1);
        }
        DUE.is("T2 8 rows at most", x.plan(0, 0), -4);
        DUE.is("T2 8 rows still", x.done(1), 8);
        DUE.is("26: none then", x.plan(-1, 0), 0);
        DUE.is("26: one comes again", x.plan(0, 0), 1);
        DUE.is("T2 DONE by one", x.done(1), 1);
    }

    /** 0 a YEAR goes (the other not looked at), 1 one is AWAY, 2 one is not, 3 the FIND at a STEP is taken away. */
    private static void rowsOfAPlan() {
        for (int n : new int[] {-1, 6, 12, MOST, LEAST}) {
            StraightFurrow x = one("pass 40", 0);
            DUE.is("T2 0, the other being " + n, x.plan(0, n), 1);
            DUE.is("T2 a YEAR goes, the other being " + n, x.done(0) * 10 + x.done(1), 11);
        }
        StraightFurrow x = Due.in("pass 40");
        for (int man = 0; man < 6; man++) {
            x.man(0, 0, 4);
        }
        x.away(0, true);
        x.away(5, true);
        x.plan(0, 0);
        DUE.is("T2 0 as it is", x.done(0), 30);
        x.plan(2, 0);
        x.plan(0, 0);
        DUE.is("T2 2, the first is not AWAY", x.done(0), 31);
        x.plan(2, 5);
        x.plan(0, 0);
        DUE.is("T2 2, nor the last", x.done(0), 63);
        x.plan(1, 0);
        x.plan(0, 0);
        DUE.is("T2 1, the first is AWAY", x.done(0), 62);
        DUE.is("T2 WINS of all", x.done(1), 4);
        DUE.is("T2 it changes nothing", x.told(3), 33);
        StraightFurrow finds = one("pass 40", 2);
        finds.lay(0, 1);
        finds.lay(11, 1);
        finds.plan(3, 0);
        finds.plan(0, 0);
        DUE.is("T2 3, the first taken away", finds.done(0), 0);
        finds.plan(3, 11);
        finds.plan(3, 5);
        finds.plan(0, 0);
        DUE.is("T2 3, the last, too, and one where none lies", finds.done(0), 1);
        DUE.is("T2 they lie still", finds.told(10) + finds.told(21), 2);
    }

    /** (what -1: none then, 0, whatever the other is) */
    private static void noPlanThen() {
        for (int n : new int[] {0, -1, 99, MOST, LEAST}) {
            StraightFurrow x = one("pass 1", 0);
            DUE.is("26: plan(-1) of none", x.plan(-1, n), 0);
            for (int i = 0; i < 8; i++) {
                x.plan(0, 0);
            }
            DUE.is("26: plan(-1) of eight", x.plan(-1, n), 0);
            DUE.is("26: none", x.count(4), 0);
            DUE.is("27: as it is", x.done(1), 0);
        }
        DUE.is("26: plan(-2)", new StraightFurrow().plan(-2, 0), -1);
    }

    /** DONE without rows, and without MEN. */
    private static void doneAtTheEnds() {
        StraightFurrow x = new StraightFurrow();
        x.plan(0, 0);
        DUE.is("27: without MEN", x.done(0) + x.done(1), 0);
        StraightFurrow y = Whole.full();
        y.plan(-1, 0);
        DUE.is("27: without rows, BELIEVED as it is", y.done(0), y.told(2));
        DUE.is("27: without rows, WINS as they are", y.done(1), 1);
        DUE.is("27: what 2", y.done(2), -1);
        DUE.is("27: what -1", y.done(-1), -1);
    }

    /** BOOK .. 8 at most. */
    private static void eightRowsOfABook() {
        StraightFurrow x = one("pass 1", 0);
        DUE.is("T2 no BOOK at first", x.count(5), 0);
        for (int i = 0; i < 8; i++) {
            DUE.is("T2 as told, by " + i + " rows", x.looked(), -5);
            DUE.is("T2 row " + i + " of BOOK", x.book(0, i == 7 ? 0 : 4), i + 1);
        }
        DUE.is("T2 8 rows at most", x.book(0, 8), -4);
        DUE.is("T2 8 rows still", x.count(5), 8);
        DUE.is("T2 LOOKED at: the eighth", x.looked(), 7);
        DUE.is("28: none then", x.book(-1, 0), 0);
        DUE.is("28: one comes again", x.book(0, 4), 1);
        DUE.is("T2 the eighth is forgotten", x.looked(), -5);
    }

    /** (man -1: none then, 0, whatever the other is) */
    private static void noBookThen() {
        for (int lane : new int[] {0, -1, 9, MOST, LEAST}) {
            StraightFurrow x = one("pass 1", 0);
            DUE.is("28: book(-1) of none", x.book(-1, lane), 0);
            for (int i = 0; i < 8; i++) {
                x.book(0, i);
            }
            DUE.is("28: book(-1) of eight", x.book(-1, lane), 0);
            DUE.is("28: none", x.count(5), 0);
            DUE.is("29: none", x.looked(), -5);
        }
        DUE.is("28: book(-2)", new StraightFurrow().book(-2, 0), -1);
    }

    /** LOOKED at: the first whose PEG is otherwise now (-5: none). */
    private static void lookedAtTheEnds() {
        DUE.is("29: without a BOOK", new StraightFurrow().looked(), -5);
        StraightFurrow x = one("pass 1", 0);
        x.man(0, 0, 0);
        x.man(0, 0, 8);
        x.book(2, 8);
        x.book(1, 0);
        DUE.is("29: all as told", x.looked(), -5);
        x.peg(1, 1);
        DUE.is("29: one more than told", x.looked(), 1);
        x.peg(2, 7);
        DUE.is("29: of several the first", x.looked(), 0);
        x.peg(2, 8);
        x.peg(1, 0);
        x.book(1, 1);
        DUE.is("29: told twice, once otherwise", x.looked(), 2);
        x.peg(1, 1);
        DUE.is("29: then the other row", x.looked(), 1);
    }
}
