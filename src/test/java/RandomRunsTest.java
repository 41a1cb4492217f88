import java.util.Random;

/** Runs of 512 calls drawn from a fixed seed: each answer is that of PlainFurrow. */
final class RandomRunsTest {
    private static final Due DUE = new Due("RandomRunsTest");
    private static final int RUNS = 400;
    private static final int CALLS = 512;

    private final Random random;
    private final StraightFurrow x = new StraightFurrow();
    private final PlainFurrow plain = new PlainFurrow();
    private final String name;
    private int calls;

    private RandomRunsTest(int run) {
        random = new Random(run * 7919L + 17);
        name = "run " + run + " ";
    }

    public static void main(String[] args) {
        for (int run = 0; run < RUNS; run++) {
            new RandomRunsTest(run).runs();
        }
        DUE.ends();
    }

    private void runs() {
        while (calls < CALLS) {
            if (random.nextInt(40) == 0) {
                reads(text());
            } else {
                calls(random.nextInt(34));
            }
        }
    }

    private void due(String call, long got, long want) {
        calls++;
        DUE.is(name + "call " + calls + ": " + call, got, want);
    }

    private void reads(String text) {
        for (int i = 0; i < text.length() && calls < CALLS; i++) {
            due("feed", x.feed(text.charAt(i)), plain.feed(text.charAt(i)));
        }
        due("parish of " + text, x.parish(), plain.parish());
    }

    /** A PARISH, at times with a sign too many, too few, or another. */
    private String text() {
        StringBuilder text = new StringBuilder();
        int clauses = 1 + random.nextInt(random.nextInt(8) == 0 ? 11 : 4);
        for (int i = 0; i < clauses; i++) {
            text.append(i == 0 ? "" : ";");
            String word = clauses > 5 || random.nextInt(5) == 0 ? "pass" : random.nextBoolean() ? "draw" : "hold";
            text.append(word).append(' ');
            if (word.equals("pass")) {
                text.append(random.nextInt(6) == 0 ? random.nextInt(100) : 25 + random.nextInt(16));
            } else {
                text.append(random.nextInt(12)).append(' ').append(either(0));
            }
        }
        int at = random.nextInt(text.length());
        String signs = "pkxlfy<=>!(&|);0123 dhz";
        switch (random.nextInt(8)) {
            case 0: text.deleteCharAt(at); break;
            case 1: text.insert(at, signs.charAt(random.nextInt(signs.length()))); break;
            case 2: text.setCharAt(at, signs.charAt(random.nextInt(signs.length()))); break;
            case 3: text.setLength(at); break;
            default: break;
        }
        return text.toString();
    }

    private String either(int depth) {
        StringBuilder text = new StringBuilder(factor(depth));
        while (random.nextInt(3) == 0) {
            text.append(random.nextBoolean() ? '&' : '|').append(factor(depth));
        }
        return text.toString();
    }

    private String factor(int depth) {
        if (depth < 6 && random.nextInt(4) == 0) {
            return random.nextBoolean() ? "!" + factor(depth + 1) : "(" + either(depth + 1) + ")";
        }
        int letter = random.nextInt(6);
        int[] most = {6, 7, 12, 9, 10, 10};
        return "" + "pkxlfy".charAt(letter) + "<=>".charAt(random.nextInt(3)) + random.nextInt(most[letter]);
    }

    /** Mostly within, now and then beside, seldom far off. */
    private int upTo(int most) {
        switch (random.nextInt(60)) {
            case 0: return -1;
            case 1: return most + 1;
            case 2: return random.nextInt();
            default: return random.nextInt(most + 1);
        }
    }

    private int who() {
        return upTo(random.nextInt(4) == 0 ? 5 : 3);
    }

    private int what() {
        switch (random.nextInt(4)) {
            case 0: return upTo(7);
            case 1: return 10 + upTo(12);
            case 2: return 20 + upTo(5);
            default: return 30 + upTo(5);
        }
    }

    private void calls(int call) {
        int a = who();
        int b = who();
        int n = upTo(9);
        int w = what();
        int lane = upTo(8);
        int step = upTo(11);
        if (call < 17) {
            tells(call, a, b, n, lane, step);
        } else {
            asks(call, a, n, w, lane, step);
        }
    }

    private void tells(int call, int a, int b, int n, int lane, int step) {
        boolean is = random.nextInt(3) == 0;
        int k = upTo(6);
        int w = what();
        switch (call) {
            case 0: due("feed", x.feed(n), plain.feed(n)); break;
            case 1: due("man", x.man(k, n, lane), plain.man(k, n, lane)); break;
            case 2: due("of", x.of(a, k), plain.of(a, k)); break;
            case 3: due("row", x.row(a, k - 2, n), plain.row(a, k - 2, n)); break;
            case 4: due("peg", x.peg(a, lane), plain.peg(a, lane)); break;
            case 5: due("away", x.away(a, is), plain.away(a, is)); break;
            case 6:
            case 7: due("lay", x.lay(step, n), plain.lay(step, n)); break;
            case 8: due("plead", x.plead(a, b), plain.plead(a, b)); break;
            case 9:
            case 10: due("told " + w, x.told(w), plain.told(w)); break;
            case 11: due("pass", x.pass(n), plain.pass(n)); break;
            case 12: due("see", x.see(a, step + 1, lane), plain.see(a, step + 1, lane)); break;
            case 13: due("plan", x.plan(k - 2, step), plain.plan(k - 2, step)); break;
            case 14: due("plan", x.plan(k, a), plain.plan(k, a)); break;
            case 15: due("book", x.book(a, lane), plain.book(a, lane)); break;
            default:
                int one = random.nextInt(20);
                if (one == 0) {
                    due("parish", x.parish(), plain.parish());
                } else if (one < 4) {
                    due("image", x.image(), plain.image());
                } else if (one < 6) {
                    due("undo", x.undo(), plain.undo());
                } else if (one == 6) {
                    int years = upTo(60);
                    due("pass", x.pass(years), plain.pass(years));
                }
                break;
        }
    }

    private void asks(int call, int a, int n, int w, int lane, int step) {
        int years = upTo(random.nextInt(3) == 0 ? 60 : 12);
        int part = upTo(1);
        int k = upTo(7);
        switch (call) {
            case 17:
            case 18: due("line " + a + " " + lane + " " + w, x.line(a, lane, w), plain.line(a, lane, w)); break;
            case 19: due("strays", x.strays(a, step, lane), plain.strays(a, step, lane)); break;
            case 20: due("on " + years + " " + w, x.on(years, w), plain.on(years, w)); break;
            case 21: due("when", x.when(a), plain.when(a)); break;
            case 22: due("start", x.start(a), plain.start(a)); break;
            case 23: due("waver", x.waver(a, n), plain.waver(a, n)); break;
            case 24: due("clear", x.clear(a), plain.clear(a)); break;
            case 25: due("bar", x.bar(k), plain.bar(k)); break;
            case 26: due("from", x.from(a), plain.from(a)); break;
            case 27: due("firm", x.firm(a, part), plain.firm(a, part)); break;
            case 28: due("odds", x.odds(a, n, part), plain.odds(a, n, part)); break;
            case 29: due("mean", x.mean(part), plain.mean(part)); break;
            case 30: due("done", x.done(part), plain.done(part)); break;
            case 31: due("looked", x.looked(), plain.looked()); break;
            case 32: due("as", x.as(a, k), plain.as(a, k)); due("count", x.count(k), plain.count(k)); break;
            default:
                int with = random.nextInt(3) == 0 ? random.nextInt() : n;
                due("act", x.act(a, k - 2, with), plain.act(a, k - 2, with));
                due("trace", x.trace(k), plain.trace(k));
                break;
        }
    }
}
