/** Promises 12, 15 and 16: years that go, and years to come. */
final class YearsTest {
    private static final Due DUE = new Due("YearsTest");

    public static void main(String[] args) {
        yearsGo();
        believedByWhatWasAhead();
        asFarAsCanBe();
        refusals();
        on();
        onByAllKinds();
        when();
        whenLate();
        DUE.ends();
    }

    /** Man 0 is straight in even years, man 1 in those that end in 1 to 4. */
    private static StraightFurrow two() {
        StraightFurrow x = Due.in("pass 40;draw 1 p=0&(y=1|y=3|y=5|y=7|y=9);draw 1 p=1&(y=0|y>4)&x=0");
        x.man(0, 0, 0);
        x.man(0, 0, 0);
        x.plead(0, 1);
        x.plead(1, 0);
        return x;
    }

    private static void yearsGo() {
        StraightFurrow x = two();
        int[] believed = {1, 2, 3, 2, 3, 0, 1, 0, 1, 0, 1, 2, 3};
        int[] first = {1, 1, 2, 2, 3, 3, 4, 4, 5, 5, 6, 6, 7};
        for (int year = 0; year < 13; year++) {
            DUE.is("12: pass(1)", x.pass(1), year + 1);
            DUE.is("12: BELIEVED behind YEAR " + year, x.told(2), believed[year]);
            DUE.is("12: of(0, 4) behind YEAR " + year, x.of(0, 4), first[year]);
            DUE.is("12: of(1, 4) behind YEAR " + year, x.of(1, 4), year + 1 - first[year]);
        }
        DUE.is("12: pass(0)", x.pass(0), 13);
        DUE.is("12: nothing goes by it", x.told(2), 3);
        StraightFurrow y = two();
        DUE.is("12: pass(13)", y.pass(13), 13);
        DUE.is("12: BELIEVED", y.told(2), 3);
        DUE.is("12: of(0, 4)", y.of(0, 4), 7);
        DUE.is("12: of(1, 4)", y.of(1, 4), 6);
        DUE.is("12: pass(60)", y.pass(60), 73);
        DUE.is("12: BELIEVED by YEAR 72", y.told(2), 3);
        DUE.is("12: of(0, 4)", y.of(0, 4) + y.of(1, 4), 73);
    }

    private static void believedByWhatWasAhead() {
        StraightFurrow x = Due.in("draw 1 p=0&y=0&x<6");
        x.man(0, 0, 0);
        x.man(0, 0, 0);
        x.away(1, true);
        DUE.is("12: this YEAR's SCORE", x.of(0, 6), 28);
        x.pass(1);
        DUE.is("12: not BELIEVED by the YEAR that went", x.told(2), 0);
        DUE.is("12: though now straight", x.of(0, 6), 40);
        DUE.is("12: yet the best of those not AWAY", x.of(0, 4), 1);
        x.pass(1);
        DUE.is("12: BELIEVED", x.told(2), 1);
        x.away(0, true);
        x.pass(1);
        DUE.is("12: AWAY ones are not BELIEVED", x.told(2), 0);
        DUE.is("12: and win nothing", x.of(0, 4) + x.of(1, 4), 2);
        x.away(1, false);
        x.pass(1);
        DUE.is("12: the other", x.told(2) * 10 + x.of(1, 4), 21);
    }

    private static void asFarAsCanBe() {
        StraightFurrow x = new StraightFurrow();
        x.man(0, 0, 0);
        for (int i = 0; i < 166; i++) {
            x.pass(60);
        }
        DUE.is("12: YEAR", x.told(0), 9960);
        DUE.is("12: beyond 9999", x.pass(40), -3);
        DUE.is("12: BAD ahead of STATE", x.pass(61), -2);
        DUE.is("12: to 9999", x.pass(39), 9999);
        DUE.is("12: none more", x.pass(1), -3);
        DUE.is("12: pass(0) still", x.pass(0), 9999);
        DUE.is("12: WINS", x.of(0, 4), 9999);
        DUE.is("15: ON goes beyond, WINS are not held", x.on(60, 10), 10059);
        x.plan(0, 0);
        DUE.is("27: DONE too", x.done(1), 10000);
        DUE.is("15: nothing changes", x.of(0, 4), 9999);
        StraightFurrow y = Due.in("pass 40;draw 1 y<9");
        y.man(0, 0, 0);
        for (int i = 0; i < 166; i++) {
            y.pass(60);
        }
        y.pass(39);
        DUE.is("15: YEAR 9999 ends in 9", y.on(1, 0), 1);
        DUE.is("15: YEAR 10000 in 0", y.on(2, 0), 0);
        DUE.is("15: YEAR 10009 in 9", y.on(11, 0), 1);
    }

    private static void refusals() {
        StraightFurrow x = two();
        DUE.is("12: pass(-1)", x.pass(-1), -2);
        DUE.is("12: pass(61)", x.pass(61), -2);
        DUE.is("15: on(-1, 0)", x.on(-1, 0), -2);
        DUE.is("15: on(61, 0)", x.on(61, 0), -2);
        DUE.is("15: NONE ahead of BAD", x.on(61, 1), -1);
        int[] none = {-1, 1, 9, 12, 16, 19, 22, 30, Integer.MIN_VALUE, Integer.MAX_VALUE};
        for (int what : none) {
            DUE.is("15: on(1, " + what + ")", x.on(1, what), -1);
        }
        DUE.is("16: when(2)", x.when(2), -1);
        DUE.is("16: when(-1)", x.when(-1), -1);
    }

    private static void on() {
        StraightFurrow x = two();
        DUE.is("15: on(0, 0)", x.on(0, 0), 0);
        DUE.is("15: on(0, 10)", x.on(0, 10), 0);
        DUE.is("15: on(0, 20)", x.on(0, 20), -5);
        for (int n = 1; n <= 60; n++) {
            StraightFurrow y = two();
            y.pass(n);
            DUE.is("15: on(" + n + ", 0)", x.on(n, 0), y.told(2));
            for (int i = 0; i < 2; i++) {
                DUE.is("15: on(" + n + ", 1" + i + ")", x.on(n, 10 + i), y.of(i, 4));
                DUE.is("15: on(" + n + ", 2" + i + ")", x.on(n, 20 + i), y.told(30 + i));
            }
        }
        DUE.is("15: nothing goes by it", x.told(0) + x.told(2) + x.of(0, 4), 0);
        DUE.is("15: on(1, 20)", x.on(1, 20), 0);
        DUE.is("15: on(1, 21)", x.on(1, 21), 0);
        DUE.is("15: on(2, 21)", x.on(2, 21), 1);
        DUE.is("15: on(3, 21)", x.on(3, 21), -5);
    }

    private static StraightFurrow allKinds() {
        StraightFurrow x = Due.in("pass 36;draw 6 x=3;hold 7 x=5&l>2;draw 9 y>4&x=1;hold 9 y=2&x=7;draw 2 f=8");
        int[] kinds = {6, 6, 4, 5, 6, 3};
        for (int i = 0; i < kinds.length; i++) {
            x.man(kinds[i], i + 2, i + 1);
        }
        for (int k = 0; k < 4; k++) {
            x.row(0, k, k + 2);
            x.row(1, k, 4);
            x.row(4, k, k == 2 ? 5 : 4);
        }
        x.lay(3, 5);
        x.lay(5, 8);
        x.lay(1, 3);
        return x;
    }

    private static void onByAllKinds() {
        StraightFurrow x = allKinds();
        StraightFurrow y = allKinds();
        for (int n = 1; n <= 25; n++) {
            y.pass(1);
            DUE.is("15: all kinds, on(" + n + ", 0)", x.on(n, 0), y.told(2));
            for (int i = 0; i < 6; i++) {
                DUE.is("15: all kinds, on(" + n + ", 1" + i + ")", x.on(n, 10 + i), y.of(i, 4));
            }
        }
    }

    private static void when() {
        StraightFurrow x = two();
        DUE.is("16: for him who says so", x.when(0), 1);
        DUE.is("16: the other", x.when(1), 2);
        DUE.is("16: nothing goes by it", x.told(0), 0);
        x.pass(1);
        DUE.is("16: it is so already", x.when(0), 0);
        x.pass(1);
        DUE.is("16: in YEAR 6", x.when(0), 5);
        x.away(0, true);
        DUE.is("16: it is so though the other is AWAY", x.when(1), 0);
        DUE.is("16: never", x.when(0), -5);
    }

    private static void whenLate() {
        StraightFurrow x = Due.in("pass 40;draw 1 p=0&y<9;draw 1 p=1");
        x.man(0, 0, 0);
        x.man(0, 0, 0);
        x.plead(0, 1);
        x.plead(1, 0);
        DUE.is("16: behind ten YEARS", x.when(0), 10);
        DUE.is("16: never", x.when(1), -5);
        x.pass(10);
        DUE.is("16: now", x.when(0), 0);
        x.pass(1);
        DUE.is("16: behind nine more", x.when(0), 9);
    }
}
