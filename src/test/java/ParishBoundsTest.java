/** The bounds that "Terms" and promises 2 and 3 name of THE TAPE and of what is a PARISH, a sentence each. */
final class ParishBoundsTest {
    private static final Due DUE = new Due("ParishBoundsTest");
    /** Ten bytes, and twenty-two times four more. */
    private static final String NINETY_EIGHT = "draw 1 p<9" + "|p<9".repeat(22);

    public static void main(String[] args) {
        noTape();
        tapeOf100();
        bytes();
        firstByte();
        endsTooEarly();
        tenClauses();
        blanks();
        digits();
        fiveOpen();
        openTillClosed();
        openTillItsFEnds();
        fiveParishes();
        newestHolds();
        passWithout();
        lastPass();
        testsAtTheLowEnd();
        testsAtTheHighEnd();
        yearsModulo10();
        emptiedByAFault();
        DUE.ends();
    }

    private static void sound(String name, String text) {
        DUE.is(name + ": " + text, Due.parish(new StraightFurrow(), text), 0);
    }

    private static void fault(String name, String text, int place) {
        DUE.is(name + ": " + text, Due.parish(new StraightFurrow(), text), -10 - place);
    }

    /** A PARISH has one clause at least: an empty TAPE ends too early. */
    private static void noTape() {
        StraightFurrow x = new StraightFurrow();
        DUE.is("T1 THE TAPE at first", x.count(6), 0);
        DUE.is("T1 FAULT of an empty TAPE", x.parish(), -10);
        DUE.is("3: no PARISH came", x.count(1), 0);
    }

    /** THE TAPE (bytes, 100 at most). */
    private static void tapeOf100() {
        String hundred = "draw 10 p<99" + "|p<9".repeat(22);
        StraightFurrow x = new StraightFurrow();
        x.man(0, 0, 0);
        for (int i = 0; i < 100; i++) {
            DUE.is("T1 THE TAPE's sign " + i, x.feed(hundred.charAt(i)), i + 1);
        }
        DUE.is("T1 100 at most", x.feed('9'), -4);
        DUE.is("T1 100 still", x.count(6), 100);
        DUE.is("T1 a PARISH of 100", x.parish(), 0);
        DUE.is("T1 it holds", x.strays(0, 0, 0), 10);
        DUE.is("2: THE TAPE takes signs again", x.feed('p'), 1);
        sound("T1 a PARISH of 98", NINETY_EIGHT);
        fault("T1 a FAULT at 98", NINETY_EIGHT + "  ", 98);
        fault("T1 a FAULT at 99", hundred.substring(0, 99) + ")", 99);
        fault("T1 100 that end too early", "draw 10 p<9" + "|p<9".repeat(22) + "|", 100);
    }

    /** A sign (0 .. 127). */
    private static void bytes() {
        for (int sign : new int[] {0, 127}) {
            StraightFurrow x = new StraightFurrow();
            DUE.is("2: feed(" + sign + ")", x.feed(sign), 1);
            DUE.is("T1 FAULT at 0 by " + sign, x.parish(), -10);
            Due.feeds(x, "pass 1");
            DUE.is("2: feed(" + sign + ") behind six", x.feed(sign), 7);
            DUE.is("T1 FAULT at 6 by " + sign, x.parish(), -16);
        }
        for (int sign : new int[] {-1, 128}) {
            StraightFurrow x = Due.in("pass 1");
            DUE.is("2: feed(" + sign + ")", x.feed(sign), -2);
            DUE.is("2: nothing came", x.count(6), 0);
        }
    }

    /** FAULT: the place of the first byte with which no PARISH can go on: at each place, all bytes. */
    private static void firstByte() {
        String digits = "0123456789";
        goesOn("draw 5 p=1", "pdh", "r", "a", "w", " ", digits, " " + digits, "pkxlfy!(", "<=>", digits,
            "&|;" + digits);
        goesOn("hold 0 !(y>0", "pdh", "o", "l", "d", " ", digits, " ", "pkxlfy!(", "pkxlfy!(", "pkxlfy!(", "<=>",
            digits, "&|)");
        goesOn("hold 12 (l<34)", "pdh", "o", "l", "d", " ", digits, " " + digits, " ", "pkxlfy!(", "pkxlfy!(",
            "<=>", digits, "&|)" + digits, "&|)", "&|;");
        goesOn("pass 7;pass 10", "pdh", "a", "s", "s", " ", digits, ";" + digits, "pdh", "a", "s", "s", " ", digits,
            ";" + digits, ";");
    }

    private static void goesOn(String text, String... by) {
        for (int place = 0; place <= text.length(); place++) {
            for (int sign = 0; sign < 128; sign++) {
                boolean isFine = by[place].indexOf((char) sign) >= 0;
                int answer = Due.parish(new StraightFurrow(), text.substring(0, place) + (char) sign);
                DUE.is("T1 FAULT at " + place + " by " + sign + " behind " + text.substring(0, place),
                    answer == -10 - place ? 1 : 0, isFine ? 0 : 1);
            }
        }
    }

    /** (the size, if it ends too early) */
    private static void endsTooEarly() {
        String text = "draw 12 !(p=12)&k<0|l>9;pass 30";
        for (int size = 0; size <= text.length(); size++) {
            String start = text.substring(0, size);
            // Behind ), behind a TEST, behind each digit of the last n
            boolean isParish = size == 15 || size == 19 || size == 23 || size >= 30;
            DUE.is("T1 the size: " + start, Due.parish(new StraightFurrow(), start), isParish ? 0 : -10 - size);
        }
    }

    /** CLAUSES, 10 at most. */
    private static void tenClauses() {
        String nine = "pass 1;".repeat(9);
        sound("T1 one CLAUSE", "pass 1");
        sound("T1 10 CLAUSES", nine + "hold 7 x<9");
        StraightFurrow x = Due.in(nine + "hold 7 x<9");
        x.man(0, 0, 0);
        DUE.is("T1 the tenth holds", x.strays(0, 8, 0), -7);
        fault("T1 no eleventh", nine + "hold 7 x<9;", 73);
        fault("T1 no eleventh", nine + "hold 7 x<9;pass 1", 73);
        fault("T1 no eleventh", nine + "pass 1;pass 1", 69);
        fault("T1 an empty CLAUSE", "pass 1;;pass 1", 7);
        fault("T1 an empty CLAUSE in the end", "pass 1;", 7);
        fault("T1 an empty CLAUSE ahead", ";pass 1", 0);
        fault("T1 an eleventh to come", nine + ";", 63);
    }

    /** One blank ahead of each part behind the word. */
    private static void blanks() {
        fault("T1 no blank", "pass1", 4);
        fault("T1 two blanks", "pass  1", 5);
        fault("T1 no blank", "draw1 p=1", 4);
        fault("T1 two blanks", "draw  1 p=1", 5);
        fault("T1 no blank ahead of E", "draw 1p=1", 6);
        fault("T1 two blanks ahead of E", "draw 1  p=1", 7);
        fault("T1 no blank", "hold1 p=1", 4);
        fault("T1 two blanks", "hold  1 p=1", 5);
        fault("T1 no blank ahead of E", "hold 1(p=1)", 6);
        fault("T1 two blanks ahead of E", "hold 10  p=1", 8);
        fault("T1 a blank ahead of the word", " pass 1", 0);
        fault("T1 a blank behind pass", "pass 1 ", 6);
        fault("T1 a blank behind E", "draw 1 p=1 ", 10);
        fault("T1 a blank ahead of ;", "pass 1 ;pass 1", 6);
        fault("T1 a blank behind ;", "pass 1; pass 1", 7);
        fault("T1 a blank in a TEST", "draw 1 p =1", 8);
        fault("T1 a blank in a TEST", "draw 1 p= 1", 9);
        fault("T1 a blank ahead of &", "draw 1 p=1 &p=1", 10);
        fault("T1 a blank behind |", "draw 1 p=1| p=1", 11);
        fault("T1 a blank behind !", "draw 1 ! p=1", 8);
        fault("T1 a blank behind (", "draw 1 ( p=1)", 8);
    }

    /** n 1 or 2 digits, no 0 ahead of another; a number likewise. */
    private static void digits() {
        String[] ahead = {"pass ", "draw ", "hold ", "draw 1 p=", "draw 1 k<", "hold 1 x>", "hold 1 !l=", "hold 1 (f=",
            "draw 1 p=1&y="};
        String[] behind = {"", " p=1", " p=1", "", "", "", "", ")", ""};
        for (int i = 0; i < ahead.length; i++) {
            int place = ahead[i].length();
            for (String n : new String[] {"0", "1", "9", "10", "19", "90", "99"}) {
                sound("T1 1 or 2 digits", ahead[i] + n + behind[i]);
            }
            fault("T1 no digit", ahead[i] + behind[i], place);
            fault("T1 no digit", ahead[i], place);
            fault("T1 a sign", ahead[i] + "-1" + behind[i], place);
            fault("T1 a sign", ahead[i] + "+1" + behind[i], place);
            fault("T1 the byte below 0", ahead[i] + "/" + behind[i], place);
            fault("T1 the byte above 9", ahead[i] + ":" + behind[i], place);
            for (String n : new String[] {"00", "01", "09", "010"}) {
                fault("T1 a 0 ahead of another", ahead[i] + n + behind[i], place + 1);
            }
            for (String n : new String[] {"100", "999", "110"}) {
                fault("T1 3 digits", ahead[i] + n + behind[i], place + 2);
            }
        }
    }

    /** At most 5 of ! and ( are open: five of whatever order, and a sixth of either. */
    private static void fiveOpen() {
        for (int order = 0; order < 32; order++) {
            StringBuilder opened = new StringBuilder();
            StringBuilder closed = new StringBuilder();
            for (int i = 0; i < 5; i++) {
                boolean isNot = (order >> i & 1) == 1;
                opened.append(isNot ? '!' : '(');
                closed.append(isNot ? "" : ")");
            }
            sound("T1 5 open", "draw 1 " + opened + "p=1" + closed);
            sound("T1 5 open in a second clause", "pass 1;hold 1 " + opened + "p=1" + closed);
            fault("T1 a sixth !", "draw 1 " + opened + "!p=1" + closed, 12);
            fault("T1 a sixth (", "draw 1 " + opened + "(p=1)" + closed, 12);
        }
        StraightFurrow x = Due.in("draw 1 !!!!!x=3;hold 1 !(!(!x=5))");
        x.man(0, 0, 0);
        DUE.is("T1 five ! turn it", x.strays(0, 3, 0), -1 + 1 - 1);
        DUE.is("T1 five ! turn it", x.strays(0, 5, 0), 1);
        DUE.is("T1 both", x.strays(0, 0, 0), 0);
    }

    /** A ( till its ). */
    private static void openTillClosed() {
        sound("T1 ( till its )", "draw 1 (((((p=1)))))&(((((p=1)))))|(((((p=1)))))");
        sound("T1 ( till its )", "draw 1 (p=1)|(p=1)|(p=1)|(p=1)|(p=1)|(p=1)");
        sound("T1 one closed, one more", "draw 1 (((((p=1)&(p=1)))))");
        fault("T1 one closed, two more", "draw 1 (((((p=1)&((p=1))))))", 18);
        fault("T1 none closed", "draw 1 (((((p=1&(p=1))))))", 16);
        fault("T1 none closed", "draw 1 (((((p=1|!p=1)))))", 16);
        fault("T1 a ) too many", "draw 1 (p=1))", 12);
        fault("T1 a ) that opens nothing", "draw 1 p=1)", 10);
        fault("T1 a ) too few", "draw 1 ((p=1)", 13);
        fault("T1 a ) too few, and a clause", "draw 1 ((p=1);pass 1", 13);
        fault("T1 nothing within", "draw 1 ()", 8);
    }

    /** A ! till its F ends. */
    private static void openTillItsFEnds() {
        sound("T1 ! till its F ends", "draw 1 !!!!!p=1&!!!!!p=1|!!!!!p=1");
        sound("T1 ! till its F ends", "draw 1 !p=1|!p=1|!p=1|!p=1|!p=1|!p=1");
        fault("T1 a sixth behind such", "draw 1 !!!!!p=1&!!!!!!p=1", 21);
        sound("T1 its F is (E)", "draw 1 !(p=1&!!!p=2)");
        fault("T1 its F is (E): open to the )", "draw 1 !(p=1&!!!!p=2)", 16);
        sound("T1 behind the ) it has ended", "draw 1 !(p=1)&!!!!!p=2");
        sound("T1 its F is a TEST, within a (", "draw 1 (!p=1&!!!!p=1)");
        fault("T1 its F is a TEST, within a (", "draw 1 (!p=1&!!!!!p=1)", 17);
        sound("T1 a ! and its ( end together", "draw 1 (!!(p=1)&!!(!p=1))");
        fault("T1 a ! and its ( end together", "draw 1 (!!(p=1)&!!(!(p=1)))", 20);
    }

    /** PARISHES are numbered from 0 on, 5 at most; parish() FULL (ahead of all; THE TAPE stays). */
    private static void fiveParishes() {
        StraightFurrow x = new StraightFurrow();
        DUE.is("T1 no PARISHES at first", x.count(1), 0);
        for (int i = 0; i < 5; i++) {
            DUE.is("3: a FAULT is none of them", Due.parish(x, "pass"), -14);
            DUE.is("T1 PARISH " + i, Due.parish(x, "pass 1" + i), i);
            DUE.is("T1 PARISHES", x.count(1), i + 1);
        }
        DUE.is("3: FULL ahead of an empty TAPE", x.parish(), -4);
        Due.feeds(x, "pass");
        DUE.is("3: FULL ahead of a FAULT", x.parish(), -4);
        DUE.is("3: THE TAPE stays", x.feed(' '), 5);
        Due.feeds(x, "77");
        DUE.is("3: FULL ahead of a PARISH", x.parish(), -4);
        DUE.is("3: THE TAPE stays", x.count(6), 7);
        DUE.is("3: the fifth holds", x.told(1), 14);
        DUE.is("T1 5 at most", x.count(1), 5);
    }

    /** The newest one holds; without one there are no CLAUSES. */
    private static void newestHolds() {
        StraightFurrow x = new StraightFurrow();
        x.man(0, 0, 4);
        DUE.is("T1 no CLAUSES", x.strays(0, 0, 4), 0);
        Due.parish(x, "draw 5 x=0");
        DUE.is("T1 the first", x.strays(0, 0, 4), 5);
        Due.parish(x, "hold 3 x=1");
        DUE.is("T1 the first no more", x.strays(0, 0, 4), 0);
        DUE.is("T1 the newest", x.strays(0, 1, 4), -3);
        Due.parish(x, "hold 9 x=1;");
        DUE.is("3: by a FAULT, the one that held holds", x.strays(0, 1, 4), -3);
        Due.parish(x, "pass 3");
        DUE.is("T1 one that neither draws nor holds", x.strays(0, 1, 4), 0);
    }

    /** PASS (30 without). */
    private static void passWithout() {
        StraightFurrow x = new StraightFurrow();
        DUE.is("T1 PASS without a PARISH", x.told(1), 30);
        Due.parish(x, "draw 9 x=0");
        DUE.is("T1 PASS without one in it", x.told(1), 30);
        Due.parish(x, "pass 29");
        DUE.is("T1 PASS", x.told(1), 29);
        Due.parish(x, "pass 31;");
        DUE.is("T1 PASS by a FAULT", x.told(1), 29);
        Due.parish(x, "draw 9 x=0");
        DUE.is("T1 PASS without one in the newest", x.told(1), 30);
    }

    /** PASS: the last n of pass, 0 and 99, too. */
    private static void lastPass() {
        StraightFurrow x = Due.in("pass 0");
        DUE.is("T1 PASS 0", x.told(1), 0);
        Due.parish(x, "pass 99");
        DUE.is("T1 PASS 99", x.told(1), 99);
        Due.parish(x, "pass 99;draw 1 x=0;pass 0;hold 5 x=1");
        DUE.is("T1 the last of two", x.told(1), 0);
        Due.parish(x, "pass 7;pass 8;pass 9");
        DUE.is("T1 the last of three", x.told(1), 9);
    }

    private static void isSo(StraightFurrow x, String test, int man, int at, boolean so) {
        Due.parish(x, "draw 1 " + test);
        DUE.is("T1 " + test + " of MAN " + man + " at " + at, x.strays(man, at == 0 ? 0 : 11, at), so ? 1 : 0);
    }

    /** p, k, x, l, f, y, all 0. */
    private static void testsAtTheLowEnd() {
        for (char letter : "pkxlfy".toCharArray()) {
            StraightFurrow x = new StraightFurrow();
            x.man(0, 5, 5);
            isSo(x, letter + "<0", 0, 0, false);
            isSo(x, letter + "=0", 0, 0, true);
            isSo(x, letter + ">0", 0, 0, false);
            isSo(x, letter + "<1", 0, 0, true);
            isSo(x, letter + "=1", 0, 0, false);
        }
    }

    /** p 5, k 6, x 11, l 8, f 9, y 9. */
    private static void testsAtTheHighEnd() {
        int[] most = {5, 6, 11, 8, 9, 9};
        for (int letter = 0; letter < 6; letter++) {
            String name = "" + "pkxlfy".charAt(letter);
            int n = most[letter];
            isSo(lastOfAll(), name + ">" + (n - 1), 5, 8, true);
            isSo(lastOfAll(), name + "=" + n, 5, 8, true);
            isSo(lastOfAll(), name + "<" + n, 5, 8, false);
            isSo(lastOfAll(), name + ">" + n, 5, 8, false);
            isSo(lastOfAll(), name + "<" + (n + 1), 5, 8, true);
            isSo(lastOfAll(), name + "=" + (n + 1), 5, 8, false);
            isSo(lastOfAll(), name + "<99", 5, 8, true);
            isSo(lastOfAll(), name + "=99", 5, 8, false);
            isSo(lastOfAll(), name + ">99", 5, 8, false);
        }
    }

    /** The last of MEN is TOLD, his ROW adds nothing at STEP 11, where the greatest FIND lies, in a YEAR that ends in 9. */
    private static StraightFurrow lastOfAll() {
        StraightFurrow x = new StraightFurrow();
        for (int man = 0; man < 5; man++) {
            x.man(0, 0, 0);
        }
        x.man(6, 0, 0);
        x.row(5, 3, 4);
        x.lay(11, 9);
        x.pass(9);
        return x;
    }

    /** y the YEAR modulo 10. */
    private static void yearsModulo10() {
        StraightFurrow x = Due.in("draw 1 y=9;draw 2 y=0;draw 4 y>9");
        x.man(0, 0, 0);
        int[][] due = {{0, 2}, {8, 0}, {9, 1}, {10, 2}, {11, 0}, {19, 1}, {20, 2}, {59, 1}, {60, 2}, {99, 1}, {100, 2}, {101, 0}};
        for (int[] row : due) {
            x.pass(row[0] - x.told(0));
            DUE.is("T1 y in YEAR " + row[0], x.strays(0, 0, 0), row[1]);
        }
    }

    /** THE TAPE, which is empty then (by a FAULT, too). */
    private static void emptiedByAFault() {
        StraightFurrow x = new StraightFurrow();
        DUE.is("3: a PARISH", Due.parish(x, "pass 5"), 0);
        DUE.is("3: THE TAPE is empty", x.count(6), 0);
        DUE.is("3: parish() again: it ends too early", x.parish(), -10);
        DUE.is("3: a FAULT", Due.parish(x, "pass 6;"), -17);
        DUE.is("3: THE TAPE is empty by it, too", x.count(6), 0);
        DUE.is("3: what comes is not read behind it", Due.parish(x, "pass 7"), 1);
        DUE.is("3: it holds", x.told(1), 7);
    }
}
