/** Promises 21 to 25: what is seen, odds, means. */
final class SeenTest {
    private static final Due DUE = new Due("SeenTest");
    private static final long NO = Long.MIN_VALUE;

    public static void main(String[] args) {
        see();
        from();
        firm();
        firmOfTold();
        odds();
        mean();
        DUE.ends();
    }

    private static void see() {
        StraightFurrow x = new StraightFurrow();
        DUE.is("21: nobody there", x.see(0, 0, 0), -1);
        x.man(0, 0, 0);
        DUE.is("21: see(0, 12, 8)", x.see(0, 12, 8), 1);
        DUE.is("21: see(0, 13, 0)", x.see(0, 13, 0), -1);
        DUE.is("21: see(0, -1, 0)", x.see(0, -1, 0), -1);
        DUE.is("21: see(0, 0, 9)", x.see(0, 0, 9), -1);
        DUE.is("21: see(0, 0, -1)", x.see(0, 0, -1), -1);
        DUE.is("21: see(1, 0, 0)", x.see(1, 0, 0), -1);
        DUE.is("21: see(-2, 0, 0)", x.see(-2, 0, 0), -1);
        for (int i = 2; i <= 5; i++) {
            DUE.is("21: see(0, 0, 0)", x.see(0, 0, 0), i);
        }
        DUE.is("21: FULL", x.see(0, 0, 0), -4);
        DUE.is("21: NONE ahead of FULL", x.see(0, 13, 0), -1);
        DUE.is("35: count(3)", x.count(3), 5);
        DUE.is("21: see(-1, 99, -99)", x.see(-1, 99, -99), 0);
        DUE.is("35: count(3)", x.count(3), 0);
        DUE.is("21: see(0, 0, 0)", x.see(0, 0, 0), 1);
    }

    /** Up at 0 and 1: from 7 and 8, too, one comes to 8. */
    private static void from() {
        StraightFurrow x = Due.in("draw 1 x<2&y=0");
        x.man(0, 0, 3);
        x.man(0, 0, 3);
        DUE.is("22: nothing SEEN", x.from(0), 511);
        x.see(0, 12, 8);
        DUE.is("22: 6, 7 or 8", x.from(0), 1 << 6 | 1 << 7 | 1 << 8);
        DUE.is("22: of the other nothing is SEEN", x.from(1), 511);
        x.see(0, 1, 8);
        DUE.is("22: 7 or 8", x.from(0), 1 << 7 | 1 << 8);
        x.see(0, 0, 7);
        DUE.is("22: 7", x.from(0), 1 << 7);
        x.see(0, 2, 7);
        DUE.is("22: from nowhere", x.from(0), 0);
        DUE.is("22: from(2)", x.from(2), -1);
        DUE.is("22: from(-1)", x.from(-1), -1);
        x.see(-1, 0, 0);
        x.see(0, 12, 8);
        x.pass(1);
        DUE.is("22: by this YEAR", x.from(0), 1 << 8);
        x.away(0, true);
        DUE.is("22: AWAY or not", x.from(0), 1 << 8);
    }

    /** A VETERAN, half of 9 is 4: up by v under 4, straight by 4, down by more. */
    private static void firm() {
        StraightFurrow x = Due.in("draw 9 x=0;draw 10 x>0;draw 8 x>0");
        x.man(4, 2, 4);
        x.man(4, 2, 4);
        DUE.is("23: nothing SEEN", x.firm(0, 0), 10);
        DUE.is("23: the least", x.firm(0, 1), 0);
        x.see(0, 1, 4);
        DUE.is("23: just one", x.firm(0, 0), 1);
        DUE.is("23: it is 4", x.firm(0, 1), 4);
        DUE.is("23: v stays", x.of(0, 1), 2);
        DUE.is("23: of the other nothing is SEEN", x.firm(1, 0), 10);
        x.see(-1, 0, 0);
        x.see(0, 1, 3);
        DUE.is("23: 5 to 9", x.firm(0, 0), 5);
        DUE.is("23: the least", x.firm(0, 1), 5);
        x.see(0, 2, 4);
        DUE.is("23: 5 to 8", x.firm(0, 0), 4);
        x.peg(0, 5);
        DUE.is("23: from its PEG", x.firm(0, 0), 0);
        DUE.is("23: none", x.firm(0, 1), -5);
        DUE.is("23: firm(2, 0)", x.firm(2, 0), -1);
        DUE.is("23: firm(-1, 0)", x.firm(-1, 0), -1);
        DUE.is("23: firm(0, 2)", x.firm(0, 2), -1);
        DUE.is("23: firm(0, -1)", x.firm(0, -1), -1);
    }

    private static void firmOfTold() {
        StraightFurrow x = Due.in("draw 2 x=4");
        x.man(6, 0, 4);
        x.lay(4, 6);
        for (int k = 0; k < 4; k++) {
            x.row(0, k, 4);
        }
        x.see(0, 12, 5);
        DUE.is("23: FIND above v", x.firm(0, 0), 6);
        x.see(-1, 0, 0);
        x.see(0, 12, 4);
        DUE.is("23: FIND not above v", x.firm(0, 1), 6);
    }

    private static void odds() {
        StraightFurrow x = Due.in("pass 38;hold 2 x<4;draw 1 x=11&f=0");
        x.man(2, 0, 0);
        x.man(0, 0, 4);
        DUE.is("24: its SCORE", x.of(0, 6), 38);
        // At 0, 1 a 2 is held. At 2, 3 too. At 4 to 10 up, and again at 11; at 11 up by the FIND.
        DUE.is("24: 5 of 12, above", x.odds(0, 2, 0), 5);
        DUE.is("24: below", x.odds(0, 2, 1), 12);
        DUE.is("24: MAN, lost all", x.odds(1, 2, 0), 0);
        DUE.is("24: none of 12 in lowest terms", x.odds(1, 2, 1), 1);
        StraightFurrow y = Due.in("pass 40");
        y.man(2, 0, 8);
        DUE.is("24: by the hedge all", y.odds(0, 9, 0), 1);
        DUE.is("24: below", y.odds(0, 9, 1), 1);
        y.away(0, true);
        DUE.is("24: AWAY or not", y.odds(0, 1, 0), 1);
        StraightFurrow z = Due.in("pass 40;hold 9 x<9");
        z.man(2, 0, 0);
        DUE.is("24: 9 of 12 in lowest terms", z.odds(0, 9, 0) * 10 + z.odds(0, 9, 1), 34);
        z.lay(10, 1);
        DUE.is("24: in place of what lies", z.odds(0, 9, 0), 0);
        long[] none = {x.odds(-1, 1, 0), x.odds(2, 1, 0), x.odds(0, 0, 0), x.odds(0, 10, 0),
            x.odds(0, 1, -1), x.odds(0, 1, 2)};
        for (long answer : none) {
            DUE.is("24: NO", answer, NO);
        }
        DUE.is("24: no FIND stays", x.told(10), 0);
    }

    private static void mean() {
        StraightFurrow x = Due.in("draw 1 p=1&x=0;draw 1 p=2&x<3");
        DUE.is("25: nobody", x.mean(0), NO);
        x.man(0, 0, 4);
        DUE.is("25: mean(0)", x.mean(0), 40);
        DUE.is("25: mean(1)", x.mean(1), 1);
        x.man(0, 0, 4);
        x.man(0, 0, 4);
        DUE.is("25: 112 by 3", x.mean(0) * 10 + x.mean(1), 1123);
        x.away(0, true);
        DUE.is("25: 72 by 2 in lowest terms", x.mean(0) * 10 + x.mean(1), 361);
        x.away(0, false);
        x.away(2, true);
        x.man(0, 0, 4);
        x.man(0, 0, 4);
        DUE.is("25: 158 by 4 in lowest terms", x.mean(0) * 10 + x.mean(1), 792);
        DUE.is("25: mean(-1)", x.mean(-1), NO);
        DUE.is("25: mean(2)", x.mean(2), NO);
        for (int man = 0; man < 5; man++) {
            x.away(man, true);
        }
        DUE.is("25: all AWAY", x.mean(0), NO);
    }
}
