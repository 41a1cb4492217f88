/** Promises 26 to 29: plans and books. */
final class PlansTest {
    private static final Due DUE = new Due("PlansTest");

    public static void main(String[] args) {
        plan();
        done();
        finds();
        book();
        looked();
        DUE.ends();
    }

    private static void plan() {
        StraightFurrow x = new StraightFurrow();
        x.man(0, 0, 0);
        DUE.is("26: plan(0, -99)", x.plan(0, -99), 1);
        DUE.is("26: plan(1, 0)", x.plan(1, 0), 2);
        DUE.is("26: plan(2, 0)", x.plan(2, 0), 3);
        DUE.is("26: plan(3, 11)", x.plan(3, 11), 4);
        int[][] none = {{-2, 0}, {4, 0}, {1, 1}, {1, -1}, {2, 1}, {2, -1}, {3, 12}, {3, -1}};
        for (int[] row : none) {
            DUE.is("26: plan(" + row[0] + ", " + row[1] + ")", x.plan(row[0], row[1]), -1);
        }
        for (int i = 5; i <= 8; i++) {
            DUE.is("26: plan(0, 0)", x.plan(0, 0), i);
        }
        DUE.is("26: FULL", x.plan(0, 0), -4);
        DUE.is("26: NONE ahead of FULL", x.plan(4, 0), -1);
        DUE.is("35: count(4)", x.count(4), 8);
        DUE.is("26: plan(-1, 99)", x.plan(-1, 99), 0);
        DUE.is("35: count(4)", x.count(4), 0);
        DUE.is("26: plan(0, 0)", x.plan(0, 0), 1);
    }

    private static void done() {
        StraightFurrow x = Due.in("pass 38;draw 1 p=0&x<2;draw 2 y=1");
        x.man(0, 0, 4);
        x.man(0, 0, 4);
        DUE.is("27: no PLAN", x.done(0), 0);
        x.pass(1);
        DUE.is("27: no PLAN, as it is", x.done(0), 2);
        DUE.is("27: WINS as they are", x.done(1), 1);
        x.plan(1, 1);
        DUE.is("27: AWAY, yet BELIEVED for the year", x.done(0), 2);
        x.plan(0, 0);
        DUE.is("27: a YEAR that ends in 1", x.done(0), 0);
        DUE.is("27: WINS of all", x.done(1), 2);
        x.plan(2, 1);
        x.plan(1, 0);
        x.plan(0, 0);
        DUE.is("27: one that ends in 2", x.done(0), 2);
        x.plan(1, 1);
        x.plan(0, 0);
        DUE.is("27: all AWAY", x.done(0), 0);
        DUE.is("27: nobody wins", x.done(1), 3);
        DUE.is("27: nothing changes", x.told(0) * 100 + x.told(2) * 10 + x.told(3), 120);
        DUE.is("27: done(2)", x.done(2), -1);
        DUE.is("27: done(-1)", x.done(-1), -1);
    }

    private static void finds() {
        StraightFurrow x = Due.in("pass 40");
        x.man(2, 0, 4);
        x.lay(3, 5);
        x.plan(0, 0);
        DUE.is("27: by the FIND", x.done(0), 0);
        x.plan(3, 3);
        DUE.is("27: behind the YEAR", x.done(0), 0);
        x.plan(0, 0);
        DUE.is("27: without the FIND", x.done(0), 1);
        DUE.is("27: it lies still", x.told(13), 5);
    }

    private static void book() {
        StraightFurrow x = new StraightFurrow();
        DUE.is("28: nobody there", x.book(0, 0), -1);
        x.man(0, 0, 3);
        DUE.is("28: book(0, 8)", x.book(0, 8), 1);
        DUE.is("28: book(0, 9)", x.book(0, 9), -1);
        DUE.is("28: book(0, -1)", x.book(0, -1), -1);
        DUE.is("28: book(1, 0)", x.book(1, 0), -1);
        DUE.is("28: book(-2, 0)", x.book(-2, 0), -1);
        for (int i = 2; i <= 8; i++) {
            DUE.is("28: book(0, 0)", x.book(0, 0), i);
        }
        DUE.is("28: FULL", x.book(0, 0), -4);
        DUE.is("28: NONE ahead of FULL", x.book(0, 9), -1);
        DUE.is("35: count(5)", x.count(5), 8);
        DUE.is("28: book(-1, 99)", x.book(-1, 99), 0);
        DUE.is("35: count(5)", x.count(5), 0);
        DUE.is("28: book(0, 0)", x.book(0, 0), 1);
    }

    private static void looked() {
        StraightFurrow x = new StraightFurrow();
        DUE.is("29: no BOOK", x.looked(), -5);
        x.man(0, 0, 3);
        x.man(0, 0, 5);
        x.man(0, 0, 7);
        x.book(2, 7);
        x.book(0, 3);
        x.book(1, 5);
        DUE.is("29: all is so", x.looked(), -5);
        x.peg(1, 4);
        DUE.is("29: the third row", x.looked(), 2);
        x.peg(0, 4);
        DUE.is("29: the second row", x.looked(), 1);
        x.peg(2, 8);
        DUE.is("29: the first row", x.looked(), 0);
        x.peg(2, 7);
        x.peg(0, 3);
        x.peg(1, 5);
        DUE.is("29: all is so again", x.looked(), -5);
        x.book(0, 8);
        DUE.is("29: a man told twice", x.looked(), 3);
    }
}
