/** The example of README.md, with the answers that it tells. */
final class ReadmeTest {
    private static final Due DUE = new Due("ReadmeTest");

    public static void main(String[] args) {
        StraightFurrow x = new StraightFurrow();
        for (char sign : "pass 38;draw 3 x=2|f>4".toCharArray()) {
            x.feed(sign);
        }
        DUE.is("3: parish()", x.parish(), 0);
        DUE.is("4: man(0, 1, 4)", x.man(0, 1, 4), 0);
        DUE.is("9: lay(7, 5)", x.lay(7, 5), 0);
        DUE.is("5: of(0, 6)", x.of(0, 6), 36);
        DUE.is("19: clear(0)", x.clear(0), 128);
        DUE.is("20: bar(0)", x.bar(0), 37);
        DUE.is("12: pass(1)", x.pass(1), 1);
        DUE.is("11: told(2)", x.told(2), 0);
        DUE.ends();
    }
}
