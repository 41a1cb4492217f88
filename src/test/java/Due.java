/** What is due: counts the answers, prints each that is not as due, and ends the program of a test. */
final class Due {
    private final String test;
    private int right;
    private int wrong;

    Due(String name) {
        test = name;
    }

    void is(String call, long got, long want) {
        if (got == want) {
            right++;
            return;
        }
        wrong++;
        if (wrong <= 50) {
            System.out.println(test + ": " + call + " answered " + got + ", due is " + want);
        }
    }

    /** Exit code 1 if an answer was wrong, or there was none at all. */
    void ends() {
        System.out.println(test + ": " + right + " answers as due, " + wrong + " not");
        if (wrong != 0 || right == 0) {
            System.exit(1);
        }
    }

    static void feeds(StraightFurrow x, String text) {
        for (int i = 0; i < text.length(); i++) {
            x.feed(text.charAt(i));
        }
    }

    /** The answer of parish() to that text. */
    static int parish(StraightFurrow x, String text) {
        feeds(x, text);
        return x.parish();
    }

    /** An object in which that PARISH holds. */
    static StraightFurrow in(String text) {
        StraightFurrow x = new StraightFurrow();
        if (parish(x, text) != 0) {
            throw new IllegalStateException("no PARISH: " + text);
        }
        return x;
    }
}
