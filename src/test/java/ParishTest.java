/** Promises 2 and 3: THE TAPE, and what is a PARISH. */
final class ParishTest {
    private static final Due DUE = new Due("ParishTest");

    public static void main(String[] args) {
        feeding();
        faults();
        clausesAtMost();
        openAtMost();
        whichHolds();
        fiveParishes();
        tests();
        precedence();
        DUE.ends();
    }

    private static void feeding() {
        StraightFurrow x = new StraightFurrow();
        DUE.is("2: feed(-1)", x.feed(-1), -2);
        DUE.is("2: feed(128)", x.feed(128), -2);
        DUE.is("2: feed(0)", x.feed(0), 1);
        DUE.is("2: feed(127)", x.feed(127), 2);
        for (int i = 3; i <= 100; i++) {
            DUE.is("2: sign " + i, x.feed(i), i);
        }
        DUE.is("2: a 101st", x.feed('p'), -4);
        DUE.is("2: BAD ahead of FULL", x.feed(128), -2);
        DUE.is("35: count(6)", x.count(6), 100);
        DUE.is("3: parish() by a FAULT", x.parish(), -10);
        DUE.is("3: THE TAPE is empty then", x.count(6), 0);
        DUE.is("2: feed('p') then", x.feed('p'), 1);
    }

    private static void faults() {
        String[] sound = {
            "pass 0", "pass 7", "pass 99", "draw 1 p=1", "hold 0 k<0", "draw 10 x>10",
            "draw 1 (p=1)", "draw 1 !p=1", "draw 1 (((((p=1)))))", "draw 1 !!!!!p=1", "draw 1 p=1|x<3&y>2",
            "pass 1;pass 2;hold 12 !(l=3|f=4)&k=5", "draw 1 !!!!!p=1&!!!!!p=1|(((((p=1)))))",
            "draw 1 !p=1&(((((p=1)))))", "draw 1 x=99",
        };
        for (String text : sound) {
            DUE.is("3: parish() of " + text, Due.parish(new StraightFurrow(), text), 0);
        }
        fault("", 0);
        fault("x", 0);
        fault(" pass 1", 0);
        fault(";", 0);
        fault("p", 1);
        fault("draw", 4);
        fault("drop", 2);
        fault("pass ", 5);
        fault("pass x", 5);
        fault("pass  1", 5);
        fault("pass 00", 6);
        fault("pass 07", 6);
        fault("pass 100", 7);
        fault("pass 1 ", 6);
        fault("pass 1 p=1", 6);
        fault("pass 1;", 7);
        fault("pass 1;;", 7);
        fault("pass 1;x", 7);
        fault("draw 1", 6);
        fault("draw 1;", 6);
        fault("draw 12 ", 8);
        fault("draw 1  p=1", 7);
        fault("draw 1 q=1", 7);
        fault("draw 1 p", 8);
        fault("draw 1 p!1", 8);
        fault("draw 1 p=", 9);
        fault("draw 1 p==1", 9);
        fault("draw 1 p=-1", 9);
        fault("draw 1 p=01", 10);
        fault("draw 1 p=123", 11);
        fault("draw 1 p=1 ", 10);
        fault("draw 1 p=1)", 10);
        fault("draw 1 p=1&", 11);
        fault("draw 1 p=1&|", 11);
        fault("draw 1 p=1||", 11);
        fault("draw 1 p=1!", 10);
        fault("draw 1 p=1(", 10);
        fault("draw 1 (p=1", 11);
        fault("draw 1 (p=1;", 11);
        fault("draw 1 ()", 8);
        fault("draw 1 !", 8);
        fault("draw 1 (p=1))", 12);
        fault("hold 5 p=1;drawn", 15);
    }

    private static void fault(String text, int place) {
        DUE.is("3: parish() of " + text, Due.parish(new StraightFurrow(), text), -10 - place);
    }

    private static void clausesAtMost() {
        StringBuilder ten = new StringBuilder("pass 0");
        for (int i = 1; i < 10; i++) {
            ten.append(";pass ").append(i);
        }
        DUE.is("3: ten CLAUSES", Due.parish(new StraightFurrow(), ten.toString()), 0);
        fault(ten + ";", 69);
        fault(ten + ";pass 3", 69);
        StraightFurrow x = Due.in(ten.toString());
        DUE.is("3: the tenth holds", x.told(1), 9);
    }

    private static void openAtMost() {
        fault("draw 1 !!!!!!p=1", 12);
        fault("draw 1 ((((((p=1", 12);
        fault("draw 1 !(!(!(p=1", 12);
        fault("draw 1 (((((!p=1", 12);
        fault("draw 1 p=1|((((((p=1", 16);
        fault("draw 1 (!p=1&!!!!!p=1)", 17);
        fault("draw 1 !(p=1&!!!!p=2)", 16);
        StraightFurrow x = Due.in("draw 3 !(!(!p=0&x=3)|x=4)");
        x.man(0, 0, 0);
        for (int step = 0; step < 12; step++) {
            // !(!(p!=0 and x=3) or x=4) is p!=0 and x=3 and x!=4: never so for man 0
            DUE.is("3: step " + step, x.strays(0, step, 0), 0);
        }
    }

    private static void whichHolds() {
        StraightFurrow x = new StraightFurrow();
        x.man(0, 0, 0);
        DUE.is("3: PASS without", x.told(1), 30);
        DUE.is("3: DRIFT without", x.strays(0, 0, 0), 0);
        DUE.is("3: the first", Due.parish(x, "pass 5;draw 7 p=0;pass 9"), 0);
        DUE.is("3: PASS is the last", x.told(1), 9);
        DUE.is("3: its DRIFT", x.strays(0, 0, 0), 7);
        DUE.is("3: a FAULT", Due.parish(x, "pass 40;hold 1 p=0;x"), -10 - 19);
        DUE.is("3: PASS still", x.told(1), 9);
        DUE.is("3: DRIFT still", x.strays(0, 0, 0), 7);
        DUE.is("35: count(1)", x.count(1), 1);
        DUE.is("3: the second", Due.parish(x, "hold 2 p=0"), 1);
        DUE.is("3: PASS without one in it", x.told(1), 30);
        DUE.is("3: its DRIFT, below 0", x.strays(0, 0, 0), -2);
        DUE.is("35: count(1)", x.count(1), 2);
    }

    private static void fiveParishes() {
        StraightFurrow x = new StraightFurrow();
        for (int i = 0; i < 5; i++) {
            DUE.is("3: parish " + i, Due.parish(x, "pass " + i), i);
        }
        Due.feeds(x, "xyz");
        DUE.is("3: FULL", x.parish(), -4);
        DUE.is("3: THE TAPE stays", x.count(6), 3);
        DUE.is("3: the fifth holds", x.told(1), 4);
        DUE.is("3: FULL again", x.parish(), -4);
        DUE.is("35: count(1)", x.count(1), 5);
    }

    /** Each letter with each sign, at and beside its number. */
    private static void tests() {
        String letters = "pkxlfy";
        for (int letter = 0; letter < 6; letter++) {
            for (int n = 1; n <= 3; n++) {
                for (int how = 0; how < 3; how++) {
                    String text = "draw 1 " + letters.charAt(letter) + "<=>".charAt(how) + n;
                    StraightFurrow x = Due.in(text);
                    // man 2, of KIND 0 or 2, at STEP 2 in LANE 2, FIND 2, YEAR 2
                    boolean kind = letter == 1;
                    x.man(0, 5, 8);
                    x.man(0, 5, 8);
                    x.man(kind ? 2 : 0, 5, 8);
                    if (letter == 4) {
                        x.lay(2, 2);
                    }
                    x.pass(letter == 5 ? 12 : 0);
                    boolean so = how == 0 ? 2 < n : how == 1 ? 2 == n : 2 > n;
                    DUE.is("3: " + text, x.strays(2, 2, 2), so ? 1 : 0);
                }
            }
        }
    }

    private static void precedence() {
        String[] texts = {
            "draw 1 x=0|x=1&l=1", "draw 1 (x=0|x=1)&l=1", "draw 1 x=0&l=1|x=1", "draw 1 !x=0&l=1",
            "draw 1 !(x=0&l=1)", "draw 1 x=0|x=1|x=3", "draw 1 x<4&l<4&!l=1", "draw 1 !!x=0",
        };
        for (int text = 0; text < texts.length; text++) {
            StraightFurrow x = Due.in(texts[text]);
            x.man(0, 0, 0);
            for (int step = 0; step < 5; step++) {
                for (int lane = 0; lane < 5; lane++) {
                    DUE.is("3: " + texts[text] + " at " + step + ", " + lane,
                        x.strays(0, step, lane), isSo(text, step, lane) ? 1 : 0);
                }
            }
        }
    }

    private static boolean isSo(int text, int x, int l) {
        switch (text) {
            case 0: return x == 0 || x == 1 && l == 1;
            case 1: return (x == 0 || x == 1) && l == 1;
            case 2: return x == 0 && l == 1 || x == 1;
            case 3: return x != 0 && l == 1;
            case 4: return !(x == 0 && l == 1);
            case 5: return x == 0 || x == 1 || x == 3;
            case 6: return x < 4 && l < 4 && l != 1;
            default: return x == 0;
        }
    }
}
