import java.util.ArrayList;
import java.util.List;

/**
 * The document's calls, done the slow and plain way, to be held against StraightFurrow:
 * YEARS go one by one, sets are all tried, E is read anew each time it is asked.
 */
final class PlainFurrow {
    private static final int NO_SUCH = -999999;
    private static final int[] ABOVE = {-1, 0, 0, 0, 1, 2, 3};

    /** One of MEN: kind, v, peg, away, wins, believed, row of four. */
    private static final class One {
        int kind, v, peg, wins;
        boolean away, believed;
        int[] row = new int[4];

        One copy() {
            One o = new One();
            o.kind = kind;
            o.v = v;
            o.peg = peg;
            o.wins = wins;
            o.away = away;
            o.believed = believed;
            o.row = row.clone();
            return o;
        }
    }

    private static final class All {
        int year, parishes;
        String tape = "", parish = "";
        int[] finds = new int[12];
        List<One> men = new ArrayList<>();
        List<int[]> cases = new ArrayList<>(), seen = new ArrayList<>(), plan = new ArrayList<>(), book = new ArrayList<>();

        All copy() {
            All a = new All();
            a.year = year;
            a.parishes = parishes;
            a.tape = tape;
            a.parish = parish;
            a.finds = finds.clone();
            for (One o : men) {
                a.men.add(o.copy());
            }
            a.cases.addAll(cases);
            a.seen.addAll(seen);
            a.plan.addAll(plan);
            a.book.addAll(book);
            return a;
        }
    }

    private All now = new All();
    private All image;
    private final List<Integer> trace = new ArrayList<>();

    // ---- a PARISH

    /** The FAULT by a machine that knows what may come next; -1: none. */
    static int fault(String text) {
        String open = "";
        int clauses = 1;
        String state = "clause";
        String left = "";
        boolean pass = false;
        for (int i = 0; i < text.length(); i++) {
            char c = text.charAt(i);
            boolean zero = state.equals("zero"), digit = state.equals("digit"), full = state.equals("full");
            if (state.equals("clause")) {
                if ("pdh".indexOf(c) < 0) {
                    return i;
                }
                pass = c == 'p';
                left = c == 'p' ? "ass " : c == 'd' ? "raw " : "old ";
                state = "word";
            } else if (state.equals("word")) {
                if (c != left.charAt(0)) {
                    return i;
                }
                left = left.substring(1);
                if (left.isEmpty()) {
                    state = "number";
                    open = "n";
                }
            } else if (state.equals("number")) {
                if (c < '0' || c > '9') {
                    return i;
                }
                state = c == '0' ? "zero" : "digit";
            } else if (digit && c >= '0' && c <= '9') {
                state = "full";
            } else if (zero || digit || full || state.equals("closed")) {
                if (open.equals("n")) {
                    if (!pass) {
                        if (c != ' ') {
                            return i;
                        }
                        state = "factor";
                        open = "";
                        continue;
                    }
                    open = "";
                    if (c != ';') {
                        return i;
                    }
                }
                while (open.endsWith("!")) {
                    open = open.substring(0, open.length() - 1);
                }
                if (c == '&' || c == '|') {
                    state = "factor";
                } else if (c == ')' && open.endsWith("(")) {
                    open = open.substring(0, open.length() - 1);
                    state = "closed";
                } else if (c == ';' && open.isEmpty() && clauses < 10) {
                    clauses++;
                    state = "clause";
                } else {
                    return i;
                }
            } else if (state.equals("factor")) {
                if (c == '!' || c == '(') {
                    if (open.length() == 5) {
                        return i;
                    }
                    open += c;
                } else if ("pkxlfy".indexOf(c) >= 0) {
                    state = "sign";
                } else {
                    return i;
                }
            } else if (state.equals("sign")) {
                if ("<=>".indexOf(c) < 0) {
                    return i;
                }
                state = "number";
            }
        }
        boolean ends = state.equals("zero") || state.equals("digit") || state.equals("full") || state.equals("closed");
        return ends && open.indexOf('(') < 0 && (pass || !open.equals("n")) ? -1 : text.length();
    }

    private static boolean holds(String e, int[] facts) {
        int depth = 0;
        for (char split : new char[] {'|', '&'}) {
            for (int i = 0; i < e.length(); i++) {
                char c = e.charAt(i);
                depth += c == '(' ? 1 : c == ')' ? -1 : 0;
                if (c == split && depth == 0) {
                    boolean a = holds(e.substring(0, i), facts);
                    boolean b = holds(e.substring(i + 1), facts);
                    return split == '|' ? a || b : a && b;
                }
            }
        }
        if (e.charAt(0) == '!') {
            return !holds(e.substring(1), facts);
        }
        if (e.charAt(0) == '(') {
            return holds(e.substring(1, e.length() - 1), facts);
        }
        int fact = facts["pkxlfy".indexOf(e.charAt(0))];
        int n = Integer.parseInt(e.substring(2));
        return e.charAt(1) == '<' ? fact < n : e.charAt(1) == '=' ? fact == n : fact > n;
    }

    private static int mark(All a) {
        int mark = 30;
        for (String clause : a.parish.split(";")) {
            if (clause.startsWith("pass")) {
                mark = Integer.parseInt(clause.substring(5));
            }
        }
        return mark;
    }

    private static int drift(All a, int p, int x, int l) {
        int sum = 0;
        int[] facts = {p, a.men.get(p).kind, x, l, a.finds[x], a.year % 10};
        for (String clause : a.parish.split(";")) {
            if (clause.startsWith("draw") || clause.startsWith("hold")) {
                String[] parts = clause.split(" ");
                if (holds(parts[2], facts)) {
                    sum += clause.startsWith("draw") ? Integer.parseInt(parts[1]) : -Integer.parseInt(parts[1]);
                }
            }
        }
        return sum;
    }

    private static int strayed(All a, int p, int x, int l) {
        One o = a.men.get(p);
        int drift = drift(a, p, x, l);
        int half = drift < 0 ? -(-drift / 2) : drift / 2;
        int swindles = a.finds[x] > o.v ? drift : 0;
        int[] by = {drift, half, drift + a.finds[x], swindles, half - o.v,
            (drift + a.finds[x]) * (a.year % 2 == 1 ? -1 : 1), swindles + o.row[x % 4] - 4};
        return by[o.kind];
    }

    /** OFF, BENDS, SPAN, SCORE, and from 10 on the LANES. */
    private static int[] furrow(All a, int p, int from) {
        int[] told = new int[23];
        StringBuilder turns = new StringBuilder();
        told[10] = from;
        for (int x = 0; x < 12; x++) {
            int s = Integer.signum(strayed(a, p, x, told[10 + x]));
            told[11 + x] = Math.max(0, Math.min(8, told[10 + x] + s));
            if (told[11 + x] > told[10 + x]) {
                turns.append('u');
            } else if (told[11 + x] < told[10 + x]) {
                turns.append('d');
            }
        }
        told[0] = turns.length();
        for (int i = 1; i < turns.length(); i++) {
            told[1] += turns.charAt(i) != turns.charAt(i - 1) ? 1 : 0;
        }
        told[2] = Math.abs(told[22] - from);
        told[3] = 40 - told[0] - 2 * told[1] - told[2];
        return told;
    }

    private static int score(All a, int p) {
        return furrow(a, p, a.men.get(p).peg)[3];
    }

    private static int best(All a) {
        int best = -5;
        for (int p = 0; p < a.men.size(); p++) {
            if (!a.men.get(p).away && (best < 0 || score(a, p) > score(a, best))) {
                best = p;
            }
        }
        return best;
    }

    private static void goes(All a, boolean held) {
        int best = best(a);
        int mark = mark(a);
        for (int p = 0; p < a.men.size(); p++) {
            a.men.get(p).believed = !a.men.get(p).away && score(a, p) >= mark;
        }
        if (best >= 0 && !(held && a.men.get(best).wins == 9999)) {
            a.men.get(best).wins++;
        }
        a.year++;
    }

    private static int believed(All a) {
        int bits = 0;
        for (int p = 0; p < a.men.size(); p++) {
            bits |= a.men.get(p).believed ? 1 << p : 0;
        }
        return bits;
    }

    private static int decided(All a, int c) {
        boolean so = a.men.get(a.cases.get(c)[0]).believed;
        boolean no = a.men.get(a.cases.get(c)[1]).believed;
        return so && !no ? a.cases.get(c)[0] : no && !so ? a.cases.get(c)[1] : -5;
    }

    // ---- the calls

    private boolean has(int p) {
        return p >= 0 && p < now.men.size();
    }

    private static boolean in(int n, int low, int high) {
        return n >= low && n <= high;
    }

    int feed(int sign) {
        if (!in(sign, 0, 127)) {
            return -2;
        }
        if (now.tape.length() == 100) {
            return -4;
        }
        now.tape += (char) sign;
        return now.tape.length();
    }

    int parish() {
        if (now.parishes == 5) {
            return -4;
        }
        int fault = fault(now.tape);
        String text = now.tape;
        now.tape = "";
        if (fault >= 0) {
            return -10 - fault;
        }
        now.parish = text;
        return now.parishes++;
    }

    int man(int kind, int v, int peg) {
        if (!in(kind, 0, 6) || !in(peg, 0, 8)) {
            return -1;
        }
        if (!in(v, 0, 9)) {
            return -2;
        }
        if (now.men.size() == 6) {
            return -4;
        }
        One o = new One();
        o.kind = kind;
        o.v = v;
        o.peg = peg;
        now.men.add(o);
        return now.men.size() - 1;
    }

    int of(int p, int what) {
        if (!has(p) || !in(what, 0, 6)) {
            return NO_SUCH;
        }
        One o = now.men.get(p);
        return new int[] {o.kind, o.v, o.peg, o.away ? 1 : 0, o.wins, o.believed ? 1 : 0, score(now, p)}[what];
    }

    int row(int p, int k, int n) {
        if (!has(p) || !in(k, 0, 3)) {
            return -1;
        }
        if (!in(n, 0, 9)) {
            return -2;
        }
        if (now.men.get(p).kind != 6) {
            return -3;
        }
        int was = now.men.get(p).row[k];
        now.men.get(p).row[k] = n;
        return was;
    }

    int peg(int p, int lane) {
        if (!has(p) || !in(lane, 0, 8)) {
            return -1;
        }
        int was = now.men.get(p).peg;
        now.men.get(p).peg = lane;
        return was;
    }

    int away(int p, boolean is) {
        if (!has(p)) {
            return -1;
        }
        int was = now.men.get(p).away ? 1 : 0;
        now.men.get(p).away = is;
        return was;
    }

    int lay(int x, int n) {
        if (!in(x, 0, 11)) {
            return -1;
        }
        if (!in(n, 0, 9)) {
            return -2;
        }
        int was = now.finds[x];
        now.finds[x] = n;
        return was;
    }

    private static int adds(List<int[]> rows, int most, int... row) {
        if (rows.size() == most) {
            return -4;
        }
        rows.add(row);
        return rows.size();
    }

    int plead(int so, int no) {
        if (!has(so) || !has(no)) {
            return -1;
        }
        if (so == no) {
            return -2;
        }
        int many = adds(now.cases, 5, so, no);
        return many < 0 ? many : many - 1;
    }

    int told(int what) {
        int away = 0;
        for (int p = 0; p < now.men.size(); p++) {
            away |= now.men.get(p).away ? 1 << p : 0;
        }
        if (in(what, 10, 21)) {
            return now.finds[what - 10];
        }
        if (in(what, 30, 29 + now.cases.size())) {
            return decided(now, what - 30);
        }
        return in(what, 0, 4) ? new int[] {now.year, mark(now), believed(now), away, best(now)}[what] : NO_SUCH;
    }

    int pass(int n) {
        if (!in(n, 0, 60)) {
            return -2;
        }
        if (now.year + n > 9999) {
            return -3;
        }
        for (int i = 0; i < n; i++) {
            goes(now, true);
        }
        return now.year;
    }

    int line(int p, int lane, int what) {
        boolean told = in(what, 0, 3) || in(what, 10, 22);
        return has(p) && in(lane, 0, 8) && told ? furrow(now, p, lane)[what] : NO_SUCH;
    }

    int strays(int p, int x, int lane) {
        return has(p) && in(x, 0, 11) && in(lane, 0, 8) ? strayed(now, p, x, lane) : NO_SUCH;
    }

    int on(int n, int what) {
        boolean man = in(what, 10, 9 + now.men.size());
        boolean plea = in(what, 20, 19 + now.cases.size());
        if (what != 0 && !man && !plea) {
            return -1;
        }
        if (!in(n, 0, 60)) {
            return -2;
        }
        All a = now.copy();
        for (int i = 0; i < n; i++) {
            goes(a, false);
        }
        return man ? a.men.get(what - 10).wins : plea ? decided(a, what - 20) : believed(a);
    }

    int when(int c) {
        if (!in(c, 0, now.cases.size() - 1)) {
            return -1;
        }
        All a = now.copy();
        for (int n = 0; n <= 40; n++) {
            if (decided(a, c) == a.cases.get(c)[0]) {
                return n;
            }
            goes(a, false);
        }
        return -5;
    }

    int start(int p) {
        if (!has(p)) {
            return -1;
        }
        for (int most = 40; most >= 0; most--) {
            for (int lane = 0; lane < 9; lane++) {
                if (furrow(now, p, lane)[3] == most) {
                    return lane;
                }
            }
        }
        return -1000;
    }

    int waver(int p, int n) {
        if (!has(p)) {
            return -1;
        }
        if (!in(n, 1, 9)) {
            return -2;
        }
        for (int least = 0; least < score(now, p); least++) {
            for (int x = 0; x < 12; x++) {
                All a = now.copy();
                a.finds[x] = n;
                if (score(a, p) == least) {
                    return x;
                }
            }
        }
        return -5;
    }

    int clear(int p) {
        if (!has(p)) {
            return -1;
        }
        int mark = mark(now);
        int best = -5;
        All a = now.copy();
        for (int set = 0; set < 4096; set++) {
            boolean lies = true;
            for (int x = 0; x < 12; x++) {
                boolean taken = (set >> x & 1) == 1;
                lies &= !taken || now.finds[x] > 0;
                a.finds[x] = taken ? 0 : now.finds[x];
            }
            boolean fewer = best < 0 || Integer.bitCount(set) < Integer.bitCount(best);
            if (lies && fewer && score(a, p) >= mark) {
                best = set;
            }
        }
        return best;
    }

    int bar(int q) {
        if (!in(q, 0, 6)) {
            return -2;
        }
        for (int mark = 0; mark <= 60; mark++) {
            int many = 0;
            for (int p = 0; p < now.men.size(); p++) {
                many += !now.men.get(p).away && score(now, p) >= mark ? 1 : 0;
            }
            if (many <= q) {
                return mark;
            }
        }
        return -5;
    }

    int see(int p, int x, int lane) {
        if (p == -1) {
            now.seen.clear();
            return 0;
        }
        return has(p) && in(x, 0, 12) && in(lane, 0, 8) ? adds(now.seen, 5, p, x, lane) : -1;
    }

    private boolean asSeen(All a, int p, int from) {
        int[] told = furrow(a, p, from);
        for (int[] row : a.seen) {
            if (row[0] == p && told[10 + row[1]] != row[2]) {
                return false;
            }
        }
        return true;
    }

    int from(int p) {
        if (!has(p)) {
            return -1;
        }
        int bits = 0;
        for (int lane = 0; lane < 9; lane++) {
            bits |= asSeen(now, p, lane) ? 1 << lane : 0;
        }
        return bits;
    }

    int firm(int p, int what) {
        if (!has(p) || !in(what, 0, 1)) {
            return -1;
        }
        List<Integer> so = new ArrayList<>();
        for (int v = 0; v < 10; v++) {
            All a = now.copy();
            a.men.get(p).v = v;
            if (asSeen(a, p, a.men.get(p).peg)) {
                so.add(v);
            }
        }
        return what == 0 ? so.size() : so.isEmpty() ? -5 : so.get(0);
    }

    private static long part(long top, long bottom, int part) {
        for (long by = bottom; by > 1; by--) {
            if (top % by == 0 && bottom % by == 0) {
                return part(top / by, bottom / by, part);
            }
        }
        return part == 0 ? top : bottom;
    }

    long odds(int p, int n, int part) {
        if (!has(p) || !in(n, 1, 9) || !in(part, 0, 1)) {
            return Long.MIN_VALUE;
        }
        int good = 0;
        for (int x = 0; x < 12; x++) {
            All a = now.copy();
            a.finds[x] = n;
            good += score(a, p) >= mark(a) ? 1 : 0;
        }
        return part(good, 12, part);
    }

    long mean(int part) {
        long sum = 0;
        long many = 0;
        for (int p = 0; p < now.men.size(); p++) {
            if (!now.men.get(p).away) {
                sum += score(now, p);
                many++;
            }
        }
        return !in(part, 0, 1) || many == 0 ? Long.MIN_VALUE : part(sum, many, part);
    }

    int plan(int what, int n) {
        if (what == -1) {
            now.plan.clear();
            return 0;
        }
        boolean none = !in(what, 0, 3) || (what == 1 || what == 2) && !has(n) || what == 3 && !in(n, 0, 11);
        return none ? -1 : adds(now.plan, 8, what, n);
    }

    int done(int what) {
        if (!in(what, 0, 1)) {
            return -1;
        }
        All a = now.copy();
        for (int[] row : now.plan) {
            switch (row[0]) {
                case 0: goes(a, false); break;
                case 1: a.men.get(row[1]).away = true; break;
                case 2: a.men.get(row[1]).away = false; break;
                default: a.finds[row[1]] = 0; break;
            }
        }
        int wins = 0;
        for (One o : a.men) {
            wins += o.wins;
        }
        return what == 0 ? believed(a) : wins;
    }

    int book(int p, int lane) {
        if (p == -1) {
            now.book.clear();
            return 0;
        }
        return has(p) && in(lane, 0, 8) ? adds(now.book, 8, p, lane) : -1;
    }

    int looked() {
        for (int i = 0; i < now.book.size(); i++) {
            if (now.men.get(now.book.get(i)[0]).peg != now.book.get(i)[1]) {
                return i;
            }
        }
        return -5;
    }

    /** MEN as Java itself would have them. */
    private class Man {
        int i, v;

        int ran(int body, int x) {
            trace.add(body);
            return x;
        }

        int ploughs(int x) {
            ran(1, x);
            return x + i;
        }

        int looks(int x) {
            ran(2, x);
            return ploughs(x) - v;
        }

        int swears(int x) {
            ran(3, x);
            return looks(x) * 2;
        }
    }

    private class Farmer extends Man {
        @Override int ploughs(int x) {
            ran(11, x);
            return super.ploughs(x * 3);
        }
    }

    private class Boy extends Man {
        @Override int looks(int x) {
            ran(21, x);
            return -super.looks(x);
        }
    }

    private class Swindler extends Man {
        @Override int swears(int x) {
            ran(31, x);
            return super.swears(x) ^ 7;
        }
    }

    private class Veteran extends Farmer {
        @Override int swears(int x) {
            ran(41, x);
            return super.swears(x - 1) + ploughs(2);
        }
    }

    private class Dreamer extends Boy {
        @Override int ploughs(int x) {
            ran(51, x);
            return super.ploughs(x) ^ i;
        }
    }

    private class Told extends Swindler {
        @Override int looks(int x) {
            ran(61, x);
            return super.looks(x) + v;
        }
    }

    int act(int p, int act, int x) {
        trace.clear();
        if (!has(p) || !in(act, 0, 2)) {
            return 0;
        }
        Man[] kinds = {new Man(), new Farmer(), new Boy(), new Swindler(), new Veteran(), new Dreamer(), new Told()};
        Man man = kinds[now.men.get(p).kind];
        man.i = p;
        man.v = now.men.get(p).v;
        return act == 0 ? man.ploughs(x) : act == 1 ? man.looks(x) : man.swears(x);
    }

    int trace(int i) {
        return in(i, 0, Math.min(20, trace.size()) - 1) ? trace.get(i) : -1;
    }

    int as(int p, int k) {
        if (!has(p) || !in(k, 0, 6)) {
            return -1;
        }
        for (int kind = now.men.get(p).kind; kind >= 0; kind = ABOVE[kind]) {
            if (kind == k) {
                return now.men.get(p).v;
            }
        }
        return -6;
    }

    int image() {
        image = now.copy();
        return now.men.size();
    }

    int undo() {
        if (image == null) {
            return -3;
        }
        now = image.copy();
        return now.men.size();
    }

    int count(int what) {
        int[] counts = {now.men.size(), now.parishes, now.cases.size(), now.seen.size(), now.plan.size(),
            now.book.size(), now.tape.length(), trace.size()};
        return in(what, 0, 7) ? counts[what] : -1;
    }
}
