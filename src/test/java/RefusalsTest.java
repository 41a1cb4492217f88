import java.util.function.Supplier;

/**
 * REFUSALS of each promise: at the last number that is as told, and at the first that is not;
 * of several the first one told; and that they change nothing.
 */
final class RefusalsTest {
    private static final Due DUE = new Due("RefusalsTest");
    private static final Whole WHOLE = new Whole(DUE);
    private static final int NONE = -1, BAD = -2, STATE = -3, FULL = -4, NO_SUCH = -999999;
    private static final long NO = Long.MIN_VALUE;
    private static final int MOST = Integer.MAX_VALUE, LEAST = Integer.MIN_VALUE;

    public static void main(String[] args) {
        feed();
        parish();
        man();
        of();
        row();
        peg();
        away();
        lay();
        plead();
        told();
        pass();
        line();
        strays();
        on();
        when();
        ofOneAlone();
        waver();
        bar();
        see();
        firm();
        odds();
        mean();
        plan();
        done();
        book();
        actAndTrace();
        as();
        undo();
        count();
        DUE.ends();
    }

    /** A call of one number. */
    private interface One {
        long of(StraightFurrow x, int n);
    }

    /** That call answers so, and changes nothing, with each of these numbers. */
    private static void each(String name, Supplier<StraightFurrow> made, long want, One call, int... numbers) {
        for (int n : numbers) {
            WHOLE.unchanged(name.replace("#", "" + n), made, want, x -> call.of(x, n));
        }
    }

    /** Where there is some of all, with four MEN and two CASES: that call is refused so with each of these. */
    private static void refused(String name, long want, One call, int... numbers) {
        each(name, Whole::some, want, call, numbers);
    }

    private static void full(String name, long want, Whole.Call call) {
        WHOLE.unchanged(name, Whole::full, want, call);
    }

    /** On one of its own each: the call is not refused with these numbers, but answers so. */
    private static void taken(String name, long want, One call, int... numbers) {
        for (int n : numbers) {
            DUE.is(name.replace("#", "" + n), call.of(Whole.some(), n), want);
        }
    }

    private static void feed() {
        int there = Whole.some().count(6);
        taken("2: feed(#)", there + 1, (x, n) -> x.feed(n), 0, 1, 126, 127);
        refused("2: feed(#)", BAD, (x, n) -> x.feed(n), -1, 128, LEAST, MOST);
        full("2: feed('p')", FULL, x -> x.feed('p'));
        full("2: feed(0)", FULL, x -> x.feed(0));
        full("2: feed(127)", FULL, x -> x.feed(127));
        full("2: feed(128), BAD ahead of FULL", BAD, x -> x.feed(128));
        full("2: feed(-1), BAD ahead of FULL", BAD, x -> x.feed(-1));
    }

    private static void parish() {
        full("3: parish(), FULL ahead of the FAULT", FULL, x -> x.parish());
        WHOLE.unchanged("3: parish(), FULL by what would be a PARISH", RefusalsTest::fiveAndOneMore, FULL, x -> x.parish());
        WHOLE.unchanged("3: parish(), FULL by an empty TAPE", RefusalsTest::five, FULL, x -> x.parish());
    }

    private static StraightFurrow five() {
        StraightFurrow x = new StraightFurrow();
        for (int i = 0; i < 5; i++) {
            DUE.is("3: parish " + i, Due.parish(x, "pass " + i), i);
        }
        return x;
    }

    private static StraightFurrow fiveAndOneMore() {
        StraightFurrow x = five();
        Due.feeds(x, "pass 9");
        return x;
    }

    private static void man() {
        taken("4: man(#, 0, 0)", 4, (x, n) -> x.man(n, 0, 0), 0, 6);
        taken("4: man(0, #, 0)", 4, (x, n) -> x.man(0, n, 0), 0, 9);
        taken("4: man(0, 0, #)", 4, (x, n) -> x.man(0, 0, n), 0, 8);
        refused("4: man(#, 0, 0)", NONE, (x, n) -> x.man(n, 0, 0), -1, 7, LEAST, MOST);
        refused("4: man(0, 0, #)", NONE, (x, n) -> x.man(0, 0, n), -1, 9, LEAST, MOST);
        refused("4: man(0, #, 0)", BAD, (x, n) -> x.man(0, n, 0), -1, 10, LEAST, MOST);
        refused("4: man(7, #, 0), NONE ahead of BAD", NONE, (x, n) -> x.man(7, n, 0), -1, 10);
        refused("4: man(0, #, 9), NONE ahead of BAD", NONE, (x, n) -> x.man(0, n, 9), -1, 10);
        full("4: man(0, 0, 0)", FULL, x -> x.man(0, 0, 0));
        full("4: man(6, 9, 8)", FULL, x -> x.man(6, 9, 8));
        full("4: man(0, 10, 0), BAD ahead of FULL", BAD, x -> x.man(0, 10, 0));
        full("4: man(7, 0, 0), NONE ahead of FULL", NONE, x -> x.man(7, 0, 0));
        full("4: man(0, 0, 9), NONE ahead of FULL", NONE, x -> x.man(0, 0, 9));
    }

    private static void of() {
        refused("5: of(#, 0)", NO_SUCH, (x, n) -> x.of(n, 0), -1, 4, LEAST, MOST);
        refused("5: of(0, #)", NO_SUCH, (x, n) -> x.of(0, n), -1, 7, LEAST, MOST);
        taken("5: of(0, #)", 0, (x, n) -> x.of(0, n), 0);
        taken("5: of(0, #)", 24, (x, n) -> x.of(0, n), 6);
        taken("5: of(3, #)", 5, (x, n) -> x.of(3, n), 0);
        full("5: of(5, 0)", 6, x -> x.of(5, 0));
        full("5: of(6, 0)", NO_SUCH, x -> x.of(6, 0));
    }

    private static void row() {
        taken("6: row(1, 0, #)", 0, (x, n) -> x.row(1, 0, n), 0, 9);
        taken("6: row(1, #, 1)", 0, (x, n) -> x.row(1, n, 1), 0, 3);
        refused("6: row(#, 0, 1)", NONE, (x, n) -> x.row(n, 0, 1), -1, 4, LEAST, MOST);
        refused("6: row(1, #, 1)", NONE, (x, n) -> x.row(1, n, 1), -1, 4, LEAST, MOST);
        refused("6: row(1, 0, #)", BAD, (x, n) -> x.row(1, 0, n), -1, 10, LEAST, MOST);
        refused("6: row(#, 0, 1)", STATE, (x, n) -> x.row(n, 0, 1), 0, 2, 3);
        refused("6: row(0, 0, #), BAD ahead of STATE", BAD, (x, n) -> x.row(0, 0, n), -1, 10);
        refused("6: row(0, #, 1), NONE ahead of STATE", NONE, (x, n) -> x.row(0, n, 1), -1, 4);
        refused("6: row(1, #, 10), NONE ahead of BAD", NONE, (x, n) -> x.row(1, n, 10), -1, 4);
        refused("6: row(#, 0, 10), NONE ahead of BAD", NONE, (x, n) -> x.row(n, 0, 10), -1, 4);
        for (int kind = 0; kind < 7; kind++) {
            StraightFurrow x = new StraightFurrow();
            x.man(kind, 0, 0);
            DUE.is("6: row(0, 0, 1) of KIND " + kind, x.row(0, 0, 1), kind == 6 ? 0 : STATE);
        }
    }

    private static void peg() {
        taken("7: peg(0, #)", 3, (x, n) -> x.peg(0, n), 0, 8);
        taken("7: peg(3, #)", 0, (x, n) -> x.peg(3, n), 0, 8);
        refused("7: peg(#, 5)", NONE, (x, n) -> x.peg(n, 5), -1, 4, LEAST, MOST);
        refused("7: peg(0, #)", NONE, (x, n) -> x.peg(0, n), -1, 9, LEAST, MOST);
    }

    private static void away() {
        refused("8: away(#, true)", NONE, (x, n) -> x.away(n, true), -1, 4, LEAST, MOST);
        refused("8: away(#, false)", NONE, (x, n) -> x.away(n, false), -1, 4, 32, 34, LEAST, MOST);
        taken("8: away(#, true)", 0, (x, n) -> x.away(n, true), 0, 3);
        full("8: away(6, true)", NONE, x -> x.away(6, true));
    }

    private static void lay() {
        taken("9: lay(#, 1)", 0, (x, n) -> x.lay(n, 1), 0);
        taken("9: lay(#, 1)", 9, (x, n) -> x.lay(n, 1), 11);
        taken("9: lay(2, #)", 6, (x, n) -> x.lay(2, n), 0, 9);
        refused("9: lay(#, 1)", NONE, (x, n) -> x.lay(n, 1), -1, 12, LEAST, MOST);
        refused("9: lay(2, #)", BAD, (x, n) -> x.lay(2, n), -1, 10, LEAST, MOST);
        refused("9: lay(#, 10), NONE ahead of BAD", NONE, (x, n) -> x.lay(n, 10), -1, 12);
    }

    private static void plead() {
        taken("10: plead(#, 1)", 2, (x, n) -> x.plead(n, 1), 0, 3);
        taken("10: plead(1, #)", 2, (x, n) -> x.plead(1, n), 0, 3);
        refused("10: plead(#, 1)", NONE, (x, n) -> x.plead(n, 1), -1, 4, LEAST, MOST);
        refused("10: plead(1, #)", NONE, (x, n) -> x.plead(1, n), -1, 4, LEAST, MOST);
        refused("10: plead(#, #)", BAD, (x, n) -> x.plead(n, n), 0, 3);
        refused("10: plead(#, #), NONE ahead of BAD", NONE, (x, n) -> x.plead(n, n), -1, 4);
        full("10: plead(0, 5)", FULL, x -> x.plead(0, 5));
        full("10: plead(5, 5), BAD ahead of FULL", BAD, x -> x.plead(5, 5));
        full("10: plead(6, 0), NONE ahead of FULL", NONE, x -> x.plead(6, 0));
        full("10: plead(0, 6), NONE ahead of FULL", NONE, x -> x.plead(0, 6));
    }

    private static void told() {
        refused("11: told(#)", NO_SUCH, (x, n) -> x.told(n), -1, 5, 9, 22, 29, 32, LEAST, MOST);
        taken("11: told(#)", 2, (x, n) -> x.told(n), 0);
        taken("11: told(#)", 0, (x, n) -> x.told(n), 4);
        taken("11: told(#)", 0, (x, n) -> x.told(n), 10);
        taken("11: told(#)", 9, (x, n) -> x.told(n), 21);
        taken("11: told(#)", 3, (x, n) -> x.told(n), 31);
        full("11: told(34)", -5, x -> x.told(34));
        full("11: told(35)", NO_SUCH, x -> x.told(35));
        StraightFurrow x = new StraightFurrow();
        DUE.is("11: told(30) without a CASE", x.told(30), NO_SUCH);
        x.man(0, 0, 0);
        x.man(0, 0, 0);
        x.plead(0, 1);
        DUE.is("11: told(30) with one", x.told(30), -5);
        DUE.is("11: told(31) with one", x.told(31), NO_SUCH);
    }

    private static void pass() {
        taken("12: pass(#)", 2, (x, n) -> x.pass(n), 0);
        taken("12: pass(#)", 62, (x, n) -> x.pass(n), 60);
        refused("12: pass(#)", BAD, (x, n) -> x.pass(n), -1, 61, LEAST, MOST);
        each("12: pass(#) in YEAR 9999", Whole::late, 9999, (x, n) -> x.pass(n), 0);
        each("12: pass(#) in YEAR 9999", Whole::late, STATE, (x, n) -> x.pass(n), 1, 60);
        each("12: pass(#) in YEAR 9999, BAD ahead of STATE", Whole::late, BAD, (x, n) -> x.pass(n), -1, 61, MOST);
        StraightFurrow x = new StraightFurrow();
        for (int i = 0; i < 166; i++) {
            x.pass(60);
        }
        DUE.is("12: pass(40) in YEAR 9960 would be 10000", x.pass(40), STATE);
        DUE.is("12: no YEAR went", x.told(0), 9960);
        DUE.is("12: pass(39) in YEAR 9960", x.pass(39), 9999);
    }

    private static void line() {
        taken("13: line(0, #, 10)", 8, (x, n) -> x.line(0, n, 10), 8);
        taken("13: line(0, #, 10)", 0, (x, n) -> x.line(0, n, 10), 0);
        taken("13: line(3, 8, #)", 8, (x, n) -> x.line(3, 8, n), 10);
        taken("13: line(3, 0, #)", 10, (x, n) -> x.line(3, 0, n), 0);
        taken("13: line(3, 0, #)", 22, (x, n) -> x.line(3, 0, n), 3);
        taken("13: line(3, 0, #)", 4, (x, n) -> x.line(3, 0, n), 22);
        refused("13: line(#, 0, 0)", NO_SUCH, (x, n) -> x.line(n, 0, 0), -1, 4, LEAST, MOST);
        refused("13: line(0, #, 0)", NO_SUCH, (x, n) -> x.line(0, n, 0), -1, 9, LEAST, MOST);
        refused("13: line(0, 0, #)", NO_SUCH, (x, n) -> x.line(0, 0, n), -1, 4, 9, 23, LEAST, MOST);
        full("13: line(6, 0, 0)", NO_SUCH, x -> x.line(6, 0, 0));
    }

    private static void strays() {
        taken("14: strays(0, #, 0)", 3, (x, n) -> x.strays(0, n, 0), 0, 11);
        taken("14: strays(0, 0, #)", 3, (x, n) -> x.strays(0, 0, n), 0);
        taken("14: strays(3, 0, #)", 1, (x, n) -> x.strays(3, 0, n), 8);
        refused("14: strays(#, 0, 0)", NO_SUCH, (x, n) -> x.strays(n, 0, 0), -1, 4, LEAST, MOST);
        refused("14: strays(0, #, 0)", NO_SUCH, (x, n) -> x.strays(0, n, 0), -1, 12, LEAST, MOST);
        refused("14: strays(0, 0, #)", NO_SUCH, (x, n) -> x.strays(0, 0, n), -1, 9, LEAST, MOST);
        full("14: strays(6, 0, 0)", NO_SUCH, x -> x.strays(6, 0, 0));
    }

    private static void on() {
        refused("15: on(1, #)", NONE, (x, n) -> x.on(1, n), -1, 1, 9, 14, 19, 22, LEAST, MOST);
        refused("15: on(#, 0)", BAD, (x, n) -> x.on(n, 0), -1, 61, LEAST, MOST);
        refused("15: on(#, 13)", BAD, (x, n) -> x.on(n, 13), -1, 61, LEAST, MOST);
        refused("15: on(#, 21)", BAD, (x, n) -> x.on(n, 21), -1, 61, LEAST, MOST);
        refused("15: on(#, 1), NONE ahead of BAD", NONE, (x, n) -> x.on(n, 1), -1, 61);
        refused("15: on(#, 14), NONE ahead of BAD", NONE, (x, n) -> x.on(n, 14), -1, 61);
        refused("15: on(#, 22), NONE ahead of BAD", NONE, (x, n) -> x.on(n, 22), -1, 61);
        full("15: on(0, 15)", 0, x -> x.on(0, 15));
        full("15: on(0, 16)", NONE, x -> x.on(0, 16));
        full("15: on(0, 24)", -5, x -> x.on(0, 24));
        full("15: on(0, 25)", NONE, x -> x.on(0, 25));
        StraightFurrow x = new StraightFurrow();
        DUE.is("15: on(0, 10) without MEN", x.on(0, 10), NONE);
        DUE.is("15: on(0, 20) without CASES", x.on(0, 20), NONE);
        DUE.is("15: on(60, 0) without MEN", x.on(60, 0), 0);
    }

    private static void when() {
        refused("16: when(#)", NONE, (x, n) -> x.when(n), -1, 2, LEAST, MOST);
        taken("16: when(#)", -5, (x, n) -> x.when(n), 0);
        taken("16: when(#)", 0, (x, n) -> x.when(n), 1);
        full("16: when(4)", -5, x -> x.when(4));
        full("16: when(5)", NONE, x -> x.when(5));
        DUE.is("16: when(0) without CASES", new StraightFurrow().when(0), NONE);
    }

    /** Promises 17, 19 and 22: there is a MAN, or none. */
    private static void ofOneAlone() {
        refused("17: start(#)", NONE, (x, n) -> x.start(n), -1, 4, LEAST, MOST);
        refused("19: clear(#)", NONE, (x, n) -> x.clear(n), -1, 4, LEAST, MOST);
        refused("22: from(#)", NONE, (x, n) -> x.from(n), -1, 4, LEAST, MOST);
        full("17: start(5)", 0, x -> x.start(5));
        full("17: start(6)", NONE, x -> x.start(6));
        full("19: clear(5)", -5, x -> x.clear(5));
        full("19: clear(6)", NONE, x -> x.clear(6));
        full("22: from(5)", 511, x -> x.from(5));
        full("22: from(6)", NONE, x -> x.from(6));
    }

    private static void waver() {
        taken("18: waver(0, #)", -5, (x, n) -> x.waver(0, n), 1);
        taken("18: waver(0, #)", 7, (x, n) -> x.waver(0, n), 9);
        refused("18: waver(#, 1)", NONE, (x, n) -> x.waver(n, 1), -1, 4, LEAST, MOST);
        refused("18: waver(0, #)", BAD, (x, n) -> x.waver(0, n), -1, 0, 10, LEAST, MOST);
        refused("18: waver(#, 0), NONE ahead of BAD", NONE, (x, n) -> x.waver(n, 0), -1, 4);
        refused("18: waver(#, 10), NONE ahead of BAD", NONE, (x, n) -> x.waver(n, 10), -1, 4);
    }

    private static void bar() {
        refused("20: bar(#)", BAD, (x, n) -> x.bar(n), -1, 7, LEAST, MOST);
        taken("20: bar(#)", 0, (x, n) -> x.bar(n), 3, 4, 5, 6);
    }

    private static void see() {
        taken("21: see(#, 0, 0)", 3, (x, n) -> x.see(n, 0, 0), 0, 3);
        taken("21: see(0, #, 0)", 3, (x, n) -> x.see(0, n, 0), 0, 12);
        taken("21: see(0, 0, #)", 3, (x, n) -> x.see(0, 0, n), 0, 8);
        refused("21: see(#, 0, 0)", NONE, (x, n) -> x.see(n, 0, 0), -2, 4, LEAST, MOST);
        refused("21: see(0, #, 0)", NONE, (x, n) -> x.see(0, n, 0), -1, 13, LEAST, MOST);
        refused("21: see(0, 0, #)", NONE, (x, n) -> x.see(0, 0, n), -1, 9, LEAST, MOST);
        full("21: see(0, 0, 0)", FULL, x -> x.see(0, 0, 0));
        full("21: see(6, 0, 0), NONE ahead of FULL", NONE, x -> x.see(6, 0, 0));
        full("21: see(0, 13, 0), NONE ahead of FULL", NONE, x -> x.see(0, 13, 0));
        full("21: see(0, 0, 9), NONE ahead of FULL", NONE, x -> x.see(0, 0, 9));
    }

    private static void firm() {
        taken("23: firm(3, #)", 10, (x, n) -> x.firm(3, n), 0);
        taken("23: firm(3, #)", 0, (x, n) -> x.firm(3, n), 1);
        refused("23: firm(#, 0)", NONE, (x, n) -> x.firm(n, 0), -1, 4, LEAST, MOST);
        refused("23: firm(#, 1)", NONE, (x, n) -> x.firm(n, 1), -1, 4, LEAST, MOST);
        refused("23: firm(0, #)", NONE, (x, n) -> x.firm(0, n), -1, 2, LEAST, MOST);
        full("23: firm(5, 0)", 10, x -> x.firm(5, 0));
        full("23: firm(6, 0)", NONE, x -> x.firm(6, 0));
    }

    private static void odds() {
        taken("24: odds(0, #, 1)", 1, (x, n) -> x.odds(0, n, 1), 1, 9);
        taken("24: odds(0, 1, #)", 0, (x, n) -> x.odds(0, 1, n), 0);
        refused("24: odds(#, 1, 0)", NO, (x, n) -> x.odds(n, 1, 0), -1, 4, LEAST, MOST);
        refused("24: odds(0, #, 0)", NO, (x, n) -> x.odds(0, n, 0), -1, 0, 10, LEAST, MOST);
        refused("24: odds(0, 1, #)", NO, (x, n) -> x.odds(0, 1, n), -1, 2, LEAST, MOST);
        full("24: odds(6, 1, 0)", NO, x -> x.odds(6, 1, 0));
    }

    private static void mean() {
        refused("25: mean(#)", NO, (x, n) -> x.mean(n), -1, 2, LEAST, MOST);
        StraightFurrow x = new StraightFurrow();
        DUE.is("25: mean(0), there are none", x.mean(0), NO);
        DUE.is("25: mean(1), there are none", x.mean(1), NO);
        x.man(0, 0, 0);
        DUE.is("25: mean(0), there is one", x.mean(0), 40);
        DUE.is("25: mean(1), there is one", x.mean(1), 1);
        x.away(0, true);
        DUE.is("25: mean(0), he is AWAY", x.mean(0), NO);
        DUE.is("25: mean(1), he is AWAY", x.mean(1), NO);
    }

    private static void plan() {
        taken("26: plan(#, 0)", 3, (x, n) -> x.plan(n, 0), 0, 1, 2, 3);
        taken("26: plan(0, #), not looked at", 3, (x, n) -> x.plan(0, n), -1, 4, 12, LEAST, MOST);
        taken("26: plan(1, #)", 3, (x, n) -> x.plan(1, n), 0, 3);
        taken("26: plan(2, #)", 3, (x, n) -> x.plan(2, n), 0, 3);
        taken("26: plan(3, #)", 3, (x, n) -> x.plan(3, n), 0, 11);
        refused("26: plan(#, 0)", NONE, (x, n) -> x.plan(n, 0), -2, 4, LEAST, MOST);
        refused("26: plan(1, #)", NONE, (x, n) -> x.plan(1, n), -1, 4, LEAST, MOST);
        refused("26: plan(2, #)", NONE, (x, n) -> x.plan(2, n), -1, 4, LEAST, MOST);
        refused("26: plan(3, #)", NONE, (x, n) -> x.plan(3, n), -1, 12, LEAST, MOST);
        full("26: plan(0, 0)", FULL, x -> x.plan(0, 0));
        full("26: plan(1, 5)", FULL, x -> x.plan(1, 5));
        full("26: plan(3, 11)", FULL, x -> x.plan(3, 11));
        full("26: plan(4, 0), NONE ahead of FULL", NONE, x -> x.plan(4, 0));
        full("26: plan(1, 6), NONE ahead of FULL", NONE, x -> x.plan(1, 6));
        full("26: plan(2, 6), NONE ahead of FULL", NONE, x -> x.plan(2, 6));
        full("26: plan(3, 12), NONE ahead of FULL", NONE, x -> x.plan(3, 12));
    }

    private static void done() {
        refused("27: done(#)", NONE, (x, n) -> x.done(n), -1, 2, LEAST, MOST);
        taken("27: done(#)", 0, (x, n) -> x.done(n), 0);
        taken("27: done(#)", 3, (x, n) -> x.done(n), 1);
    }

    private static void book() {
        taken("28: book(#, 0)", 3, (x, n) -> x.book(n, 0), 0, 3);
        taken("28: book(0, #)", 3, (x, n) -> x.book(0, n), 0, 8);
        refused("28: book(#, 0)", NONE, (x, n) -> x.book(n, 0), -2, 4, LEAST, MOST);
        refused("28: book(0, #)", NONE, (x, n) -> x.book(0, n), -1, 9, LEAST, MOST);
        full("28: book(0, 0)", FULL, x -> x.book(0, 0));
        full("28: book(6, 0), NONE ahead of FULL", NONE, x -> x.book(6, 0));
        full("28: book(0, 9), NONE ahead of FULL", NONE, x -> x.book(0, 9));
    }

    /** No such MAN or act: 0, and no TRACE then, but all else stays. */
    private static void actAndTrace() {
        Supplier<StraightFurrow> traceless = () -> {
            StraightFurrow x = Whole.unseen();
            x.image();
            return x;
        };
        each("30: act(#, 0, 5)", traceless, 0, (x, n) -> x.act(n, 0, 5), -1, 4, LEAST, MOST);
        each("30: act(0, #, 5)", traceless, 0, (x, n) -> x.act(0, n, 5), -1, 3, LEAST, MOST);
        taken("30: act(0, #, 5)", 5, (x, n) -> x.act(0, n, 5), 0);
        taken("30: act(0, #, 5)", 8, (x, n) -> x.act(0, n, 5), 2);
        taken("30: act(3, 0, #)", 6, (x, n) -> x.act(3, 0, n), 2);
        refused("31: trace(#)", NONE, (x, n) -> x.trace(n), -1, 5, 19, 20, LEAST, MOST);
        taken("31: trace(#)", 31, (x, n) -> x.trace(n), 0);
        taken("31: trace(#)", 1, (x, n) -> x.trace(n), 4);
        DUE.is("31: trace(0) ahead of any act", new StraightFurrow().trace(0), NONE);
    }

    private static void as() {
        refused("32: as(#, 0)", NONE, (x, n) -> x.as(n, 0), -1, 4, LEAST, MOST);
        refused("32: as(0, #)", NONE, (x, n) -> x.as(0, n), -1, 7, LEAST, MOST);
        taken("32: as(1, #)", 3, (x, n) -> x.as(1, n), 0, 3, 6);
        taken("32: as(1, #)", -6, (x, n) -> x.as(1, n), 1, 2, 4, 5);
        taken("32: as(0, #)", -6, (x, n) -> x.as(0, n), 1, 2, 3, 4, 5, 6);
        full("32: as(5, 6)", 5, x -> x.as(5, 6));
        full("32: as(6, 6)", NONE, x -> x.as(6, 6));
    }

    private static void undo() {
        WHOLE.unchanged("34: undo() without an IMAGE", Whole::unseen, STATE, x -> x.undo());
        DUE.is("34: undo() of a new object", new StraightFurrow().undo(), STATE);
    }

    private static void count() {
        refused("35: count(#)", NONE, (x, n) -> x.count(n), -1, 8, LEAST, MOST);
        taken("35: count(#)", 4, (x, n) -> x.count(n), 0);
        taken("35: count(#)", 5, (x, n) -> x.count(n), 7);
        int[] most = {6, 5, 5, 5, 8, 8, 100, 0};
        for (int what = 0; what < most.length; what++) {
            DUE.is("35: count(" + what + ") where all is full", Whole.full().count(what), most[what]);
        }
    }
}
