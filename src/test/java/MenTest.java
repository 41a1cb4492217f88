/** Promises 1 and 4 to 11: a new object, men, finds, cases, what is told. */
final class MenTest {
    private static final Due DUE = new Due("MenTest");

    public static void main(String[] args) {
        aNewObject();
        men();
        ofMen();
        rows();
        pegs();
        awayOnes();
        finds();
        cases();
        whatIsTold();
        DUE.ends();
    }

    private static void aNewObject() {
        StraightFurrow x = new StraightFurrow();
        for (int what = 0; what <= 7; what++) {
            DUE.is("1: count(" + what + ")", x.count(what), 0);
        }
        for (int step = 0; step < 12; step++) {
            DUE.is("1: told(" + (10 + step) + ")", x.told(10 + step), 0);
        }
        DUE.is("1: told(1)", x.told(1), 30);
        DUE.is("1: undo()", x.undo(), -3);
        DUE.is("1: trace(0)", x.trace(0), -1);
        DUE.is("1: feed('p') on a tape that is empty", x.feed('p'), 1);
    }

    private static void men() {
        StraightFurrow x = new StraightFurrow();
        DUE.is("4: man(-1, 0, 0)", x.man(-1, 0, 0), -1);
        DUE.is("4: man(7, 0, 0)", x.man(7, 0, 0), -1);
        DUE.is("4: man(0, 0, -1)", x.man(0, 0, -1), -1);
        DUE.is("4: man(0, 0, 9)", x.man(0, 0, 9), -1);
        DUE.is("4: man(0, -1, 0)", x.man(0, -1, 0), -2);
        DUE.is("4: man(0, 10, 0)", x.man(0, 10, 0), -2);
        DUE.is("4: NONE ahead of BAD", x.man(0, 10, 9), -1);
        DUE.is("4: refusals add nobody", x.count(0), 0);
        for (int i = 0; i < 6; i++) {
            DUE.is("4: man " + i, x.man(i + 1, 9 - i, i + 3), i);
        }
        DUE.is("4: a seventh", x.man(0, 0, 0), -4);
        DUE.is("4: BAD ahead of FULL", x.man(0, 10, 0), -2);
        DUE.is("4: NONE ahead of FULL", x.man(7, 0, 0), -1);
        DUE.is("35: count(0)", x.count(0), 6);
    }

    private static void ofMen() {
        StraightFurrow x = Due.in("draw 1 x=2");
        x.man(0, 1, 4);
        x.man(6, 7, 0);
        int[] first = {0, 1, 4, 0, 0, 0, 38};
        int[] second = {6, 7, 0, 0, 0, 0, 40};
        for (int what = 0; what <= 6; what++) {
            DUE.is("5: of(0, " + what + ")", x.of(0, what), first[what]);
            DUE.is("5: of(1, " + what + ")", x.of(1, what), second[what]);
        }
        x.away(1, true);
        DUE.is("5: SCORE of one who is AWAY", x.of(1, 6), 40);
        DUE.is("5: of(1, 3)", x.of(1, 3), 1);
        x.pass(3);
        DUE.is("5: of(0, 4)", x.of(0, 4), 3);
        DUE.is("5: of(0, 5)", x.of(0, 5), 1);
        DUE.is("5: of(1, 4)", x.of(1, 4), 0);
        DUE.is("5: of(1, 5)", x.of(1, 5), 0);
        DUE.is("5: of(-1, 0)", x.of(-1, 0), -999999);
        DUE.is("5: of(2, 0)", x.of(2, 0), -999999);
        DUE.is("5: of(0, -1)", x.of(0, -1), -999999);
        DUE.is("5: of(0, 7)", x.of(0, 7), -999999);
    }

    private static void rows() {
        StraightFurrow x = new StraightFurrow();
        x.man(6, 0, 8);
        x.man(3, 0, 0);
        x.man(6, 0, 4);
        DUE.is("6: row(0, 1, 9)", x.row(0, 1, 9), 0);
        DUE.is("6: row(0, 1, 3)", x.row(0, 1, 3), 9);
        DUE.is("6: row(0, 1, 3) again", x.row(0, 1, 3), 3);
        DUE.is("6: its STEPS 1", x.strays(0, 1, 0), -1);
        DUE.is("6: its STEPS 9", x.strays(0, 9, 0), -1);
        DUE.is("6: its STEPS 8", x.strays(0, 8, 0), -4);
        DUE.is("6: another's row", x.strays(2, 1, 0), -4);
        DUE.is("6: row(3, 0, 0)", x.row(3, 0, 0), -1);
        DUE.is("6: row(-1, 0, 0)", x.row(-1, 0, 0), -1);
        DUE.is("6: row(0, 4, 0)", x.row(0, 4, 0), -1);
        DUE.is("6: row(0, -1, 0)", x.row(0, -1, 0), -1);
        DUE.is("6: row(0, 0, 10)", x.row(0, 0, 10), -2);
        DUE.is("6: row(0, 0, -1)", x.row(0, 0, -1), -2);
        DUE.is("6: row(1, 0, 0)", x.row(1, 0, 0), -3);
        DUE.is("6: BAD ahead of STATE", x.row(1, 0, 10), -2);
        DUE.is("6: NONE ahead of BAD", x.row(1, 4, 10), -1);
        DUE.is("6: refusals change nothing", x.row(0, 0, 0), 0);
    }

    private static void pegs() {
        StraightFurrow x = Due.in("draw 1 l=7");
        x.man(0, 0, 4);
        DUE.is("7: peg(0, 7)", x.peg(0, 7), 4);
        DUE.is("7: its SCORE", x.of(0, 6), 38);
        DUE.is("7: peg(0, 8)", x.peg(0, 8), 7);
        DUE.is("7: peg(0, 9)", x.peg(0, 9), -1);
        DUE.is("7: peg(0, -1)", x.peg(0, -1), -1);
        DUE.is("7: peg(1, 0)", x.peg(1, 0), -1);
        DUE.is("7: peg(-1, 0)", x.peg(-1, 0), -1);
        DUE.is("7: of(0, 2)", x.of(0, 2), 8);
    }

    private static void awayOnes() {
        StraightFurrow x = new StraightFurrow();
        x.man(0, 0, 4);
        x.man(0, 0, 4);
        DUE.is("8: away(1, true)", x.away(1, true), 0);
        DUE.is("8: away(1, true) again", x.away(1, true), 1);
        DUE.is("8: told(3)", x.told(3), 2);
        DUE.is("8: away(0, false)", x.away(0, false), 0);
        DUE.is("8: away(1, false)", x.away(1, false), 1);
        DUE.is("8: told(3) then", x.told(3), 0);
        DUE.is("8: away(2, true)", x.away(2, true), -1);
        DUE.is("8: away(-1, true)", x.away(-1, true), -1);
        DUE.is("8: told(3) in the end", x.told(3), 0);
    }

    private static void finds() {
        StraightFurrow x = new StraightFurrow();
        x.man(2, 0, 0);
        DUE.is("9: lay(11, 9)", x.lay(11, 9), 0);
        DUE.is("9: lay(11, 4)", x.lay(11, 4), 9);
        DUE.is("9: what a BOY strays by it", x.strays(0, 11, 5), 4);
        DUE.is("9: lay(11, 0)", x.lay(11, 0), 4);
        DUE.is("9: lay(0, 1)", x.lay(0, 1), 0);
        DUE.is("9: lay(12, 0)", x.lay(12, 0), -1);
        DUE.is("9: lay(-1, 0)", x.lay(-1, 0), -1);
        DUE.is("9: lay(0, 10)", x.lay(0, 10), -2);
        DUE.is("9: lay(0, -1)", x.lay(0, -1), -2);
        DUE.is("9: NONE ahead of BAD", x.lay(12, 10), -1);
        DUE.is("9: told(10)", x.told(10), 1);
        DUE.is("9: told(21)", x.told(21), 0);
    }

    private static void cases() {
        StraightFurrow x = new StraightFurrow();
        x.man(0, 0, 0);
        x.man(0, 0, 0);
        DUE.is("10: plead(2, 0)", x.plead(2, 0), -1);
        DUE.is("10: plead(0, 2)", x.plead(0, 2), -1);
        DUE.is("10: plead(-1, 0)", x.plead(-1, 0), -1);
        DUE.is("10: plead(1, 1)", x.plead(1, 1), -2);
        DUE.is("10: NONE ahead of BAD", x.plead(2, 2), -1);
        for (int i = 0; i < 5; i++) {
            DUE.is("10: case " + i, x.plead(i % 2, 1 - i % 2), i);
        }
        DUE.is("10: a sixth", x.plead(0, 1), -4);
        DUE.is("10: BAD ahead of FULL", x.plead(0, 0), -2);
        DUE.is("35: count(2)", x.count(2), 5);
    }

    private static void whatIsTold() {
        StraightFurrow x = Due.in("pass 33;draw 1 p=1&x<4;draw 1 p=2&x=0");
        DUE.is("11: told(4), nobody", x.told(4), -5);
        x.man(0, 0, 4);
        x.man(0, 0, 4);
        x.man(0, 0, 4);
        DUE.is("11: told(1)", x.told(1), 33);
        DUE.is("11: told(4)", x.told(4), 0);
        x.away(0, true);
        DUE.is("11: told(4), the first being AWAY", x.told(4), 2);
        x.peg(1, 8);
        DUE.is("11: told(4), of several the first", x.told(4), 1);
        x.peg(1, 4);
        x.plead(1, 2);
        x.plead(2, 1);
        x.plead(0, 1);
        DUE.is("11: told(30), nobody is believed", x.told(30), -5);
        DUE.is("12: pass(1)", x.pass(1), 1);
        DUE.is("11: told(0)", x.told(0), 1);
        DUE.is("11: told(2)", x.told(2), 4);
        DUE.is("11: told(3)", x.told(3), 1);
        DUE.is("11: told(30)", x.told(30), 2);
        DUE.is("11: told(31)", x.told(31), 2);
        DUE.is("11: told(32)", x.told(32), -5);
        DUE.is("11: told(33)", x.told(33), -999999);
        x.away(2, true);
        DUE.is("11: believed for the year, though AWAY", x.told(2), 4);
        x.away(1, true);
        DUE.is("11: told(4), all AWAY", x.told(4), -5);
        x.lay(3, 7);
        DUE.is("11: told(13)", x.told(13), 7);
        int[] none = {-1, 5, 9, 22, 29, 35, Integer.MIN_VALUE, Integer.MAX_VALUE};
        for (int what : none) {
            DUE.is("11: told(" + what + ")", x.told(what), -999999);
        }
    }
}
