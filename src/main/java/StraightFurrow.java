import java.util.Arrays;

/**
 * Men who plough from hedge to hedge, and who is believed by his line.
 * The words in capitals are those of the document (../shared/DOC.md).
 * Every row is made by the constructor: a call makes no object.
 */
public final class StraightFurrow {
    public static final int NONE = -1, BAD = -2, STATE = -3, FULL = -4;
    /** There is no such number. */
    public static final long NO = Long.MIN_VALUE;

    private static final int NOT_ANY = -5, OTHER_KIND = -6, FAULTY = -10, NO_SUCH = -999999;
    private static final int STEPS = 12, LANES = 9, KINDS = 7, ROW = 4;
    private static final int MOST_MEN = 6, MOST_CASES = 5, MOST_PARISHES = 5;
    private static final int MOST_SEEN = 5, MOST_PLAN = 8, MOST_BOOK = 8;
    private static final int MOST_SIGNS = 100, MOST_SIGN = 127, MOST_DIGIT = 9;
    private static final int MOST_CLAUSES = 10, MOST_OPEN = 5, MOST_TRACE = 20;
    private static final int MOST_YEAR = 9999, MOST_WINS = 9999, NOT_HELD = 1000000, MOST_ON = 60;
    private static final int MOST_BAR = 60, BEST_SCORE = 40, PASS_WITHOUT = 30;
    /** What strays hangs on the YEAR modulo 10 alone (odd or not, too), so lines come again. */
    private static final int YEARS_TILL_AGAIN = 10;
    private static final int FARMER = 1, BOY = 2, SWINDLER = 3, VETERAN = 4, DREAMER = 5, TOLD = 6;
    /** The KIND above each KIND. */
    private static final int[] ABOVE = {-1, 0, 0, 0, 1, 2, 3};

    private final State now = new State();
    private final State kept = new State();
    private boolean hasImage;
    private final Land land = now.land;
    private final Plough plough = new Plough(now.land, now.parish);
    /** A land on which a question tries what is not so. */
    private final Land ifs = new Land();
    private final Plough tried = new Plough(ifs, now.parish);
    private final Clearing clearing = new Clearing();
    private final Reader reader = new Reader(now.tape);
    private final Deeds deeds = new Deeds();

    public StraightFurrow() {
    }

    // ---- parishes, men, finds

    public int feed(int sign) {
        return sign < 0 || sign > MOST_SIGN ? BAD : now.tape.adds(sign, 0, 0);
    }

    public int parish() {
        if (now.parishes >= MOST_PARISHES) {
            return FULL;
        }
        int fault = reader.faultOfTape();
        now.tape.empties();
        if (fault >= 0) {
            return FAULTY - fault;
        }
        now.parish.takes(reader.made);
        now.parishes++;
        return now.parishes - 1;
    }

    public int man(int kind, int v, int peg) {
        if (!isKind(kind) || !isLane(peg)) {
            return NONE;
        }
        return isDigit(v) ? land.adds(kind, v, peg) : BAD;
    }

    public int of(int man, int what) {
        if (!land.has(man)) {
            return NO_SUCH;
        }
        switch (what) {
            case 0: return land.kinds[man];
            case 1: return land.values[man];
            case 2: return land.pegs[man];
            case 3: return bit(land.gone, man);
            case 4: return land.wins[man];
            case 5: return bit(land.believed, man);
            case 6: return plough.pegScore(man);
            default: return NO_SUCH;
        }
    }

    public int row(int man, int k, int n) {
        if (!land.has(man) || k < 0 || k >= ROW) {
            return NONE;
        }
        if (!isDigit(n)) {
            return BAD;
        }
        if (land.kinds[man] != TOLD) {
            return STATE;
        }
        int was = land.rows[man * ROW + k];
        land.rows[man * ROW + k] = n;
        return was;
    }

    public int peg(int man, int lane) {
        if (!land.has(man) || !isLane(lane)) {
            return NONE;
        }
        int was = land.pegs[man];
        land.pegs[man] = lane;
        return was;
    }

    public int away(int man, boolean is) {
        if (!land.has(man)) {
            return NONE;
        }
        int was = bit(land.gone, man);
        land.goesAway(man, is);
        return was;
    }

    public int lay(int step, int n) {
        if (!isStep(step)) {
            return NONE;
        }
        if (!isDigit(n)) {
            return BAD;
        }
        int was = land.finds[step];
        land.finds[step] = n;
        return was;
    }

    public int plead(int so, int no) {
        if (!land.has(so) || !land.has(no)) {
            return NONE;
        }
        if (so == no) {
            return BAD;
        }
        int cases = now.cases.adds(so, no, 0);
        return cases < 0 ? cases : cases - 1;
    }

    public int told(int what) {
        if (what >= 10 && what < 10 + STEPS) {
            return land.finds[what - 10];
        }
        if (what >= 30 && what < 30 + now.cases.size) {
            return decided(what - 30, land.believed);
        }
        switch (what) {
            case 0: return land.year;
            case 1: return now.parish.mark;
            case 2: return land.believed;
            case 3: return land.gone;
            case 4: return winner();
            default: return NO_SUCH;
        }
    }

    public int pass(int n) {
        if (n < 0 || n > MOST_ON) {
            return BAD;
        }
        if (land.year + n > MOST_YEAR) {
            return STATE;
        }
        plough.yearsGo(n, MOST_WINS);
        return land.year;
    }

    // ---- lines, years to come

    public int line(int man, int lane, int what) {
        boolean isPlace = what >= 10 && what <= 10 + STEPS;
        if (!land.has(man) || !isLane(lane) || !isPlace && (what < 0 || what > 3)) {
            return NO_SUCH;
        }
        plough.goes(man, lane);
        if (isPlace) {
            return plough.lanes[what - 10];
        }
        switch (what) {
            case 0: return plough.off;
            case 1: return plough.bends;
            case 2: return plough.span();
            default: return plough.score();
        }
    }

    public int strays(int man, int step, int lane) {
        boolean isTold = land.has(man) && isStep(step) && isLane(lane);
        return isTold ? plough.strayed(man, step, lane) : NO_SUCH;
    }

    public int on(int n, int what) {
        boolean isMan = what >= 10 && what < 10 + land.men;
        boolean isCase = what >= 20 && what < 20 + now.cases.size;
        if (what != 0 && !isMan && !isCase) {
            return NONE;
        }
        if (n < 0 || n > MOST_ON) {
            return BAD;
        }
        ifs.takes(land);
        tried.yearsGo(n, NOT_HELD);
        if (isMan) {
            return ifs.wins[what - 10];
        }
        return isCase ? decided(what - 20, ifs.believed) : ifs.believed;
    }

    public int when(int plea) {
        if (plea < 0 || plea >= now.cases.size) {
            return NONE;
        }
        int so = now.cases.at(plea, 0);
        ifs.takes(land);
        // Behind more YEARS than these the same ones are believed again.
        for (int years = 0; years <= YEARS_TILL_AGAIN; years++) {
            if (decided(plea, ifs.believed) == so) {
                return years;
            }
            tried.yearsGo(1, NOT_HELD);
        }
        return NOT_ANY;
    }

    public int start(int man) {
        if (!land.has(man)) {
            return NONE;
        }
        int best = 0;
        int most = plough.goes(man, 0);
        for (int lane = 1; lane < LANES; lane++) {
            int score = plough.goes(man, lane);
            if (score > most) {
                most = score;
                best = lane;
            }
        }
        return best;
    }

    public int waver(int man, int n) {
        if (!land.has(man)) {
            return NONE;
        }
        if (!isFind(n)) {
            return BAD;
        }
        int least = plough.pegScore(man);
        int best = NOT_ANY;
        for (int step = 0; step < STEPS; step++) {
            int score = scoreIfLaid(man, step, n);
            if (score < least) {
                least = score;
                best = step;
            }
        }
        return best;
    }

    public int clear(int man) {
        if (!land.has(man)) {
            return NONE;
        }
        ifs.takes(land);
        Arrays.fill(ifs.finds, 0);
        return clearing.fewestTaken(plough, tried, man);
    }

    public int bar(int q) {
        if (q < 0 || q > MOST_MEN) {
            return BAD;
        }
        plough.scoresAll();
        for (int mark = 0; mark <= MOST_BAR; mark++) {
            if (Integer.bitCount(plough.whoHas(mark)) <= q) {
                return mark;
            }
        }
        return NOT_ANY;
    }

    // ---- seen, odds; part 0 above, 1 below the line

    public int see(int man, int step, int lane) {
        if (man == -1) {
            return now.seen.empties();
        }
        boolean isPlace = step >= 0 && step <= STEPS && isLane(lane);
        return land.has(man) && isPlace ? now.seen.adds(man, step, lane) : NONE;
    }

    public int from(int man) {
        if (!land.has(man)) {
            return NONE;
        }
        int lanes = 0;
        for (int lane = 0; lane < LANES; lane++) {
            plough.goes(man, lane);
            if (isAsSeen(plough, man)) {
                lanes |= 1 << lane;
            }
        }
        return lanes;
    }

    public int firm(int man, int what) {
        if (!land.has(man) || what < 0 || what > 1) {
            return NONE;
        }
        int many = 0;
        int least = NOT_ANY;
        ifs.takes(land);
        for (int v = MOST_DIGIT; v >= 0; v--) {
            ifs.values[man] = v;
            tried.goes(man, ifs.pegs[man]);
            if (isAsSeen(tried, man)) {
                many++;
                least = v;
            }
        }
        return what == 0 ? many : least;
    }

    public long odds(int man, int n, int part) {
        if (!land.has(man) || !isFind(n) || !isPart(part)) {
            return NO;
        }
        int good = 0;
        for (int step = 0; step < STEPS; step++) {
            if (scoreIfLaid(man, step, n) >= now.parish.mark) {
                good++;
            }
        }
        return partOf(good, STEPS, part);
    }

    public long mean(int part) {
        if (!isPart(part)) {
            return NO;
        }
        int many = 0;
        int sum = 0;
        for (int man = 0; man < land.men; man++) {
            if (bit(land.gone, man) == 0) {
                many++;
                sum += plough.pegScore(man);
            }
        }
        return many == 0 ? NO : partOf(sum, many, part);
    }

    // ---- plans, books

    public int plan(int what, int n) {
        if (what == -1) {
            return now.plans.empties();
        }
        boolean isTold = what == 0 || (what == 1 || what == 2) && land.has(n) || what == 3 && isStep(n);
        return isTold ? now.plans.adds(what, n, 0) : NONE;
    }

    public int done(int what) {
        if (what < 0 || what > 1) {
            return NONE;
        }
        ifs.takes(land);
        for (int i = 0; i < now.plans.size; i++) {
            int row = now.plans.at(i, 0);
            int n = now.plans.at(i, 1);
            if (row == 0) {
                tried.yearsGo(1, NOT_HELD);
            } else if (row == 3 && isStep(n)) {
                ifs.finds[n] = 0;
            } else {
                ifs.goesAway(n, row == 1);
            }
        }
        return what == 0 ? ifs.believed : ifs.winsOfAll();
    }

    public int book(int man, int lane) {
        if (man == -1) {
            return now.books.empties();
        }
        return land.has(man) && isLane(lane) ? now.books.adds(man, lane, 0) : NONE;
    }

    public int looked() {
        for (int i = 0; i < now.books.size; i++) {
            int man = now.books.at(i, 0);
            if (land.has(man) && land.pegs[man] != now.books.at(i, 1)) {
                return i;
            }
        }
        return NOT_ANY;
    }

    // ---- acts, the image

    public int act(int man, int act, int x) {
        if (!land.has(man)) {
            deeds.forgets();
            return 0;
        }
        return deeds.acts(land, man, act, x);
    }

    public int trace(int i) {
        return deeds.bodyAt(i);
    }

    public int as(int man, int k) {
        if (!land.has(man) || !isKind(k)) {
            return NONE;
        }
        return isUnder(land.kinds[man], k) ? land.values[man] : OTHER_KIND;
    }

    public int image() {
        kept.takes(now);
        hasImage = true;
        return land.men;
    }

    public int undo() {
        if (!hasImage) {
            return STATE;
        }
        now.takes(kept);
        return land.men;
    }

    public int count(int what) {
        switch (what) {
            case 0: return land.men;
            case 1: return now.parishes;
            case 2: return now.cases.size;
            case 3: return now.seen.size;
            case 4: return now.plans.size;
            case 5: return now.books.size;
            case 6: return now.tape.size;
            case 7: return deeds.ran;
            default: return NONE;
        }
    }

    // ---- what the calls share

    /** Who has the greatest SCORE this YEAR of those not AWAY; NOT_ANY: nobody. */
    private int winner() {
        plough.scoresAll();
        return plough.bestOfAll();
    }

    /** For whom a CASE is DECIDED, did these (bits) be BELIEVED. */
    private int decided(int plea, int believed) {
        int so = now.cases.at(plea, 0);
        int no = now.cases.at(plea, 1);
        if (bit(believed, so) == bit(believed, no)) {
            return NOT_ANY;
        }
        return bit(believed, so) == 1 ? so : no;
    }

    /** The SCORE of one from its PEG, did a FIND of n lie at that STEP. */
    private int scoreIfLaid(int man, int step, int n) {
        ifs.takes(land);
        if (isStep(step)) {
            ifs.finds[step] = n;
        }
        return tried.pegScore(man);
    }

    /** Whether the latest line there, being of this one, has all that is SEEN of it. */
    private boolean isAsSeen(Plough by, int man) {
        for (int i = 0; i < now.seen.size; i++) {
            int step = now.seen.at(i, 1);
            if (now.seen.at(i, 0) == man && by.laneAt(step) != now.seen.at(i, 2)) {
                return false;
            }
        }
        return true;
    }

    private static boolean isKind(int kind) {
        return kind >= 0 && kind < KINDS;
    }

    private static boolean isStep(int step) {
        return step >= 0 && step < STEPS;
    }

    private static boolean isLane(int lane) {
        return lane >= 0 && lane < LANES;
    }

    private static boolean isDigit(int n) {
        return n >= 0 && n <= MOST_DIGIT;
    }

    private static boolean isFind(int n) {
        return n >= 1 && n <= MOST_DIGIT;
    }

    private static boolean isPart(int part) {
        return part == 0 || part == 1;
    }

    private static int bit(int bits, int i) {
        return bits >> i & 1;
    }

    /** Whether a KIND is that one or under it. */
    private static boolean isUnder(int kind, int that) {
        int above = kind;
        for (int i = 0; i < KINDS && isKind(above); i++) {
            if (above == that) {
                return true;
            }
            above = ABOVE[above];
        }
        return false;
    }

    /** What stands above (0) or below (1) the line of top / bottom in lowest terms; bottom is above 0. */
    private static long partOf(int top, int bottom, int part) {
        int common = commonOf(Math.abs(top), bottom);
        if (common == 0) {
            return NO;
        }
        return part == 0 ? top / common : bottom / common;
    }

    private static int commonOf(int a, int b) {
        int more = a;
        int less = b;
        for (int i = 0; i < 64 && less != 0; i++) {
            int rest = more % less;
            more = less;
            less = rest;
        }
        return more;
    }

    /** All that there is but THE IMAGE and THE TRACE. */
    private static final class State {
        final Land land = new Land();
        final Parish parish = new Parish();
        final Rows tape = new Rows(MOST_SIGNS, 1);
        final Rows cases = new Rows(MOST_CASES, 2);
        final Rows seen = new Rows(MOST_SEEN, 3);
        final Rows plans = new Rows(MOST_PLAN, 2);
        final Rows books = new Rows(MOST_BOOK, 2);
        int parishes;

        void takes(State other) {
            land.takes(other.land);
            parish.takes(other.parish);
            tape.takes(other.tape);
            cases.takes(other.cases);
            seen.takes(other.seen);
            plans.takes(other.plans);
            books.takes(other.books);
            parishes = other.parishes;
        }
    }

    /** Rows of up to three numbers each, as many as there is room for. */
    private static final class Rows {
        private final int width;
        private final int[] cells;
        int size;

        Rows(int most, int wide) {
            width = Math.max(1, Math.min(3, wide));
            cells = new int[Math.max(0, most) * width];
        }

        /** A row comes: how many there are, or FULL. */
        int adds(int a, int b, int c) {
            int start = size * width;
            if (start < 0 || start + width > cells.length) {
                return FULL;
            }
            cells[start] = a;
            if (width > 1) {
                cells[start + 1] = b;
            }
            if (width > 2) {
                cells[start + 2] = c;
            }
            size++;
            return size;
        }

        int at(int row, int column) {
            boolean isThere = row >= 0 && row < size && column >= 0 && column < width;
            return isThere ? cells[row * width + column] : 0;
        }

        int empties() {
            size = 0;
            return 0;
        }

        void takes(Rows other) {
            int length = Math.min(cells.length, other.cells.length);
            System.arraycopy(other.cells, 0, cells, 0, length);
            size = other.size;
        }
    }

    /** The YEAR, the FINDS and the MEN: all that a line goes by but the PARISH. */
    private static final class Land {
        int year;
        int men;
        /** AWAY ones, as bits. */
        int gone;
        int believed;
        final int[] finds = new int[STEPS];
        final int[] kinds = new int[MOST_MEN];
        final int[] values = new int[MOST_MEN];
        final int[] pegs = new int[MOST_MEN];
        final int[] wins = new int[MOST_MEN];
        final int[] rows = new int[MOST_MEN * ROW];

        boolean has(int man) {
            return man >= 0 && man < men && man < MOST_MEN;
        }

        /** One more of MEN: its number, or FULL. What no call sets of it is 0 yet, behind undo(), too. */
        int adds(int kind, int v, int peg) {
            if (men < 0 || men >= MOST_MEN) {
                return FULL;
            }
            int man = men;
            kinds[man] = kind;
            values[man] = v;
            pegs[man] = peg;
            men++;
            return man;
        }

        void goesAway(int man, boolean is) {
            if (has(man)) {
                gone = is ? gone | 1 << man : gone & ~(1 << man);
            }
        }

        int winsOfAll() {
            int sum = 0;
            for (int man = 0; man < men && man < MOST_MEN; man++) {
                sum += wins[man];
            }
            return sum;
        }

        void takes(Land other) {
            year = other.year;
            men = other.men;
            gone = other.gone;
            believed = other.believed;
            System.arraycopy(other.finds, 0, finds, 0, STEPS);
            System.arraycopy(other.kinds, 0, kinds, 0, MOST_MEN);
            System.arraycopy(other.values, 0, values, 0, MOST_MEN);
            System.arraycopy(other.pegs, 0, pegs, 0, MOST_MEN);
            System.arraycopy(other.wins, 0, wins, 0, MOST_MEN);
            System.arraycopy(other.rows, 0, rows, 0, MOST_MEN * ROW);
        }
    }

    /** The CLAUSES that hold: each E from its parts on, then what it draws or holds. */
    private static final class Parish {
        /** Ops below these are TESTS: three times the place of the letter, and that of < = >. */
        static final int NOT = 18, AND = 19, OR = 20, DRAW = 21, HOLD = 22;
        static final int FACTS = 6;

        private final int[] ops = new int[MOST_SIGNS];
        private final int[] numbers = new int[MOST_SIGNS];
        private int size;
        /** PASS. */
        int mark = PASS_WITHOUT;

        void empties() {
            size = 0;
            mark = PASS_WITHOUT;
        }

        void adds(int op, int n) {
            if (size >= 0 && size < MOST_SIGNS) {
                ops[size] = op;
                numbers[size] = n;
                size++;
            }
        }

        /** DRIFT by the facts p, k, x, l, f, y. */
        int drift(int[] facts) {
            int sum = 0;
            // The answers that still wait, as bits, the latest one lowest: fewer than 16 wait at once.
            int waiting = 0;
            for (int i = 0; i < size && i < MOST_SIGNS; i++) {
                switch (ops[i]) {
                    case NOT:
                        waiting ^= 1;
                        break;
                    case AND:
                        waiting = waiting >> 1 & (waiting | ~1);
                        break;
                    case OR:
                        waiting = waiting >> 1 | waiting & 1;
                        break;
                    case DRAW:
                        sum += (waiting & 1) * numbers[i];
                        waiting >>= 1;
                        break;
                    case HOLD:
                        sum -= (waiting & 1) * numbers[i];
                        waiting >>= 1;
                        break;
                    default:
                        int letter = ops[i] / 3;
                        int fact = letter >= 0 && letter < facts.length ? facts[letter] : 0;
                        int how = fact < numbers[i] ? 0 : fact == numbers[i] ? 1 : 2;
                        waiting = waiting << 1 | (how == ops[i] % 3 ? 1 : 0);
                        break;
                }
            }
            return sum;
        }

        void takes(Parish other) {
            System.arraycopy(other.ops, 0, ops, 0, MOST_SIGNS);
            System.arraycopy(other.numbers, 0, numbers, 0, MOST_SIGNS);
            size = other.size;
            mark = other.mark;
        }
    }

    /** Reads THE TAPE sign by sign; it stops at the first one with which no PARISH can go on. */
    private static final class Reader {
        final Parish made = new Parish();
        private final Rows tape;
        private int at;
        /** The sign there; -1 behind the last. */
        private int next;
        private int number;

        Reader(Rows read) {
            tape = read;
        }

        /** The FAULT; -1: none, and what is made is the PARISH. */
        int faultOfTape() {
            made.empties();
            at = -1;
            goesOn();
            for (int clauses = 1; clauses <= MOST_CLAUSES; clauses++) {
                boolean isPass = next == 'p';
                boolean isDraw = next == 'd';
                if (!heads(isPass ? "pass" : isDraw ? "draw" : "hold")) {
                    return at;
                }
                int n = number;
                if (isPass) {
                    made.mark = n;
                } else if (eats(' ') && either(0)) {
                    made.adds(isDraw ? Parish.DRAW : Parish.HOLD, n);
                } else {
                    return at;
                }
                if (next == -1) {
                    return -1;
                }
                if (clauses == MOST_CLAUSES || !eats(';')) {
                    return at;
                }
            }
            return at;
        }

        /** A word, a blank and n. */
        private boolean heads(String word) {
            for (int i = 0; i < word.length(); i++) {
                if (!eats(word.charAt(i))) {
                    return false;
                }
            }
            return eats(' ') && readsNumber();
        }

        /** E, where so many of ! and ( are open. */
        private boolean either(int open) {
            boolean isSound = both(open);
            for (int more = 0; more < MOST_SIGNS && isSound && next == '|'; more++) {
                goesOn();
                isSound = both(open);
                made.adds(Parish.OR, 0);
            }
            return isSound;
        }

        /** T. */
        private boolean both(int open) {
            boolean isSound = factor(open);
            for (int more = 0; more < MOST_SIGNS && isSound && next == '&'; more++) {
                goesOn();
                isSound = factor(open);
                made.adds(Parish.AND, 0);
            }
            return isSound;
        }

        /** F. */
        private boolean factor(int open) {
            int first = next;
            if (first != '!' && first != '(') {
                return test();
            }
            if (open >= MOST_OPEN) {
                return false;
            }
            goesOn();
            if (first == '(') {
                return either(open + 1) && eats(')');
            }
            boolean isSound = factor(open + 1);
            made.adds(Parish.NOT, 0);
            return isSound;
        }

        private boolean test() {
            int letter = eatsOneOf("pkxlfy");
            if (letter < 0) {
                return false;
            }
            int how = eatsOneOf("<=>");
            if (how < 0 || !readsNumber()) {
                return false;
            }
            made.adds(letter * 3 + how, number);
            return true;
        }

        /** One or two digits, no 0 ahead of another. */
        private boolean readsNumber() {
            if (!isDigit(next - '0')) {
                return false;
            }
            number = next - '0';
            goesOn();
            if (number > 0 && isDigit(next - '0')) {
                number = number * 10 + next - '0';
                goesOn();
            }
            return true;
        }

        /** Whether that sign comes; if it is another one, that stays. */
        private boolean eats(int sign) {
            boolean isSo = next == sign;
            if (isSo) {
                goesOn();
            }
            return isSo;
        }

        /** The place among these of the sign that comes; -1: it is none of them, and stays. */
        private int eatsOneOf(String signs) {
            for (int i = 0; i < signs.length(); i++) {
                if (next == signs.charAt(i)) {
                    goesOn();
                    return i;
                }
            }
            return -1;
        }

        private void goesOn() {
            at++;
            next = at < tape.size && at < tape.cells.length ? tape.cells[at] : -1;
        }
    }

    /** Ploughs LINES on a land by a PARISH; the latest one stays to be looked at. */
    private static final class Plough {
        private final Land land;
        private final Parish parish;
        private final int[] facts = new int[Parish.FACTS];
        private final int[] scores = new int[MOST_MEN];
        final int[] lanes = new int[STEPS + 1];
        int off;
        int bends;

        Plough(Land ploughed, Parish held) {
            land = ploughed;
            parish = held;
        }

        /** STRAYS. */
        int strayed(int man, int step, int lane) {
            if (!land.has(man) || !isStep(step)) {
                return 0;
            }
            int v = land.values[man];
            int find = land.finds[step];
            facts[0] = man;
            facts[1] = land.kinds[man];
            facts[2] = step;
            facts[3] = lane;
            facts[4] = find;
            facts[5] = land.year % 10;
            int drift = parish.drift(facts);
            switch (land.kinds[man]) {
                case FARMER: return drift / 2;
                case VETERAN: return drift / 2 - v;
                case BOY: return drift + find;
                case DREAMER: return land.year % 2 == 1 ? -(drift + find) : drift + find;
                case SWINDLER: return find > v ? drift : 0;
                case TOLD: return (find > v ? drift : 0) + land.rows[man * ROW + step % ROW] - 4;
                default: return drift;
            }
        }

        /** How much more the LANE is behind that STEP: -1, 0 or 1. */
        int moved(int man, int step, int lane) {
            int strays = strayed(man, step, lane);
            int move = strays > 0 ? 1 : strays < 0 ? -1 : 0;
            return isLane(lane + move) ? move : 0;
        }

        /** A LINE of one from a LANE: its SCORE. */
        int goes(int man, int first) {
            off = 0;
            bends = 0;
            lanes[0] = first;
            int latest = 0;
            for (int step = 0; step < STEPS; step++) {
                int move = moved(man, step, lanes[step]);
                lanes[step + 1] = lanes[step] + move;
                if (move != 0) {
                    off++;
                    bends += move + latest == 0 ? 1 : 0;
                    latest = move;
                }
            }
            return score();
        }

        int laneAt(int step) {
            return step >= 0 && step <= STEPS ? lanes[step] : -1;
        }

        int span() {
            return Math.abs(lanes[STEPS] - lanes[0]);
        }

        int score() {
            return BEST_SCORE - off - 2 * bends - span();
        }

        int pegScore(int man) {
            return land.has(man) ? goes(man, land.pegs[man]) : 0;
        }

        /** The SCORES from their PEGS, this YEAR, of those not AWAY. */
        void scoresAll() {
            for (int man = 0; man < land.men && man < MOST_MEN; man++) {
                if (bit(land.gone, man) == 0) {
                    scores[man] = goes(man, land.pegs[man]);
                }
            }
        }

        /** Which of those not AWAY had such a SCORE or more when all were scored, as bits. */
        int whoHas(int mark) {
            int bits = 0;
            for (int man = 0; man < land.men && man < MOST_MEN; man++) {
                if (bit(land.gone, man) == 0 && scores[man] >= mark) {
                    bits |= 1 << man;
                }
            }
            return bits;
        }

        /** Who of those not AWAY had the greatest SCORE when all were scored; NOT_ANY: nobody. */
        int bestOfAll() {
            int best = NOT_ANY;
            int most = NO_SUCH;
            for (int man = 0; man < land.men && man < MOST_MEN; man++) {
                if (bit(land.gone, man) == 0 && scores[man] > most) {
                    most = scores[man];
                    best = man;
                }
            }
            return best;
        }

        /** So many YEARS go; WINS are held at the most. Each YEAR that comes again is ploughed but once. */
        void yearsGo(int n, int mostWins) {
            int first = land.year;
            for (int i = 0; i < n && i < YEARS_TILL_AGAIN; i++) {
                land.year = first + i;
                int times = (n - i + YEARS_TILL_AGAIN - 1) / YEARS_TILL_AGAIN;
                scoresAll();
                int best = bestOfAll();
                if (land.has(best)) {
                    land.wins[best] = Math.min(mostWins, land.wins[best] + times);
                }
                if (i == (n - 1) % YEARS_TILL_AGAIN) {
                    land.believed = whoHas(parish.mark);
                }
            }
            land.year = first + n;
        }
    }

    /** Looks for the fewest FINDS to be taken away. */
    private static final class Clearing {
        /** How the LANE moves at each STEP in each LANE with what lies there, and with nothing. */
        private final int[] moves = new int[STEPS * LANES];
        private final int[] bareMoves = new int[STEPS * LANES];
        private int lying;
        private int first;
        private int mayLose;
        private int best;
        private int fewest;

        /** CLEAR, by a plough on the land as it is and one on the land without FINDS. */
        int fewestTaken(Plough asIs, Plough bare, int man) {
            if (!asIs.land.has(man)) {
                return NOT_ANY;
            }
            first = asIs.land.pegs[man];
            mayLose = BEST_SCORE - asIs.parish.mark;
            lying = 0;
            for (int step = 0; step < STEPS; step++) {
                lying |= asIs.land.finds[step] > 0 ? 1 << step : 0;
                for (int lane = 0; lane < LANES; lane++) {
                    moves[step * LANES + lane] = asIs.moved(man, step, lane);
                    bareMoves[step * LANES + lane] = bare.moved(man, step, lane);
                }
            }
            best = NOT_ANY;
            fewest = STEPS + 1;
            search(0, first, 0, 0, 0);
            return best;
        }

        /** Goes on from a STEP, so much being lost and this set being taken; what can't be best is left. */
        private void search(int step, int lane, int latest, int lost, int set) {
            if (lost > mayLose || Integer.bitCount(set) > fewest || !isLane(lane)) {
                return;
            }
            if (step >= STEPS) {
                keeps(lost + Math.abs(lane - first), set);
                return;
            }
            int move = moves[step * LANES + lane];
            search(step + 1, lane + move, latestOf(move, latest), lost + lossOf(move, latest), set);
            if (bit(lying, step) == 1) {
                move = bareMoves[step * LANES + lane];
                search(step + 1, lane + move, latestOf(move, latest), lost + lossOf(move, latest), set | 1 << step);
            }
        }

        private void keeps(int lost, int set) {
            int taken = Integer.bitCount(set);
            boolean isBetter = taken < fewest || taken == fewest && set < best;
            if (lost <= mayLose && isBetter) {
                best = set;
                fewest = taken;
            }
        }

        private static int latestOf(int move, int latest) {
            return move == 0 ? latest : move;
        }

        /** What a STEP takes off the SCORE: 1 for a change of LANE, 2 more for a bend. */
        private static int lossOf(int move, int latest) {
            if (move == 0) {
                return 0;
            }
            return move + latest == 0 ? 3 : 1;
        }
    }

    /** ACTS of MEN, and THE TRACE. */
    private static final class Deeds {
        private static final int PLOUGHS = 0, LOOKS = 1, SWEARS = 2, ACTS = 3;
        /** The bodies of each KIND for each act; 0: it has none. */
        private static final int[] BODIES = {
            1, 2, 3,
            11, 0, 0,
            0, 21, 0,
            0, 0, 31,
            0, 0, 41,
            51, 0, 0,
            0, 61, 0};

        private final int[] bodies = new int[MOST_TRACE];
        int ran;
        private int man;
        private int kind;
        private int value;

        void forgets() {
            ran = 0;
        }

        int bodyAt(int i) {
            return i >= 0 && i < ran && i < MOST_TRACE ? bodies[i] : NONE;
        }

        int acts(Land land, int who, int act, int x) {
            ran = 0;
            if (!land.has(who) || act < 0 || act >= ACTS) {
                return 0;
            }
            man = who;
            kind = land.kinds[who];
            value = land.values[who];
            return runs(kind, act, x, 0);
        }

        /** The body of a KIND for an act, or of the next one above that has one, runs. */
        private int runs(int asKind, int act, int x, int depth) {
            if (depth > MOST_TRACE) {
                return 0;
            }
            int body = bodyOf(asKind, act);
            begins(body);
            int next = depth + 1;
            switch (body) {
                case 1: return x + man;
                case 2: return runs(kind, PLOUGHS, x, next) - value;
                case 3: return runs(kind, LOOKS, x, next) * 2;
                case 11: return runs(ABOVE[FARMER], PLOUGHS, x * 3, next);
                case 21: return -runs(ABOVE[BOY], LOOKS, x, next);
                case 31: return runs(ABOVE[SWINDLER], SWEARS, x, next) ^ 7;
                case 41: return runs(ABOVE[VETERAN], SWEARS, x - 1, next) + runs(kind, PLOUGHS, 2, next);
                case 51: return runs(ABOVE[DREAMER], PLOUGHS, x, next) ^ man;
                case 61: return runs(ABOVE[TOLD], LOOKS, x, next) + value;
                default: return 0;
            }
        }

        private static int bodyOf(int asKind, int act) {
            int above = asKind;
            for (int i = 0; i < KINDS && isKind(above); i++) {
                int body = BODIES[above * ACTS + act];
                if (body != 0) {
                    return body;
                }
                above = ABOVE[above];
            }
            return 0;
        }

        private void begins(int body) {
            if (ran >= 0 && ran < MOST_TRACE) {
                bodies[ran] = body;
            }
            ran++;
        }
    }
}
