import java.util.Arrays;

/** A road that is paved by two gangs, one from each end, till they meet. The document is ../shared/DOC.md. */
public final class TillTheyMeet {
    public static final int NONE = -1, BAD = -2, STATE = -3, FULL = -4;
    public static final long NO = -4611686018427387904L;

    private static final int MISSING = -11, OUTSIDE = -12, UNLIKE = -13, BELOW_ZERO = -14;
    private static final int NO_SUCH_RUN = -100000, FAULTY = -100;

    private static final int YARDS = 24, LAST_YARD = 23, GANGS = 2, LAST_GROUND = 3, BAD_GROUND = 2;
    private static final int LAST_KIND = 5, LAST_NUMBER = 9, MOST_MEN = 30, LAST_DAY = 999;
    private static final int MOST_DAYS = 300, MOST_EASE = 10, QUARREL_TURNS = 8, SHARED_MEN = 20;
    private static final int DEAREST_PAY = 100, PAY_STEP = 5, MOST_SEEDS = 30;
    private static final int MOST_TEXTS = 6, SHEETS = 4, LAST_SORT = 2, SHEET_ITEMS = 40, MOST_PAIRS = 20;
    private static final String FIRST_TEXT = "rate men * 4 ; need 30 + ground * 25 ; worth 0 ;";

    // By what set() names: MEN of GANG 0, MEN of GANG 1, PAY for a YARD, PAY for a DAY, WAGE.
    private static final int[] SET_LEAST = {1, 1, 0, 0, 0};
    private static final int[] SET_MOST = {30, 30, 999, 999, 99};

    private final Road now;
    private final Road kept;
    // RUNs are gone through on roads of their own, which are made once: calls make no objects.
    private final Road plan;
    private final Road trial;
    private final Best best = new Best();
    private final Reader reader = new Reader();
    private final Rule[] rules = new Rule[MOST_TEXTS];
    private final Sheet[] sheets = new Sheet[SHEETS];
    private int texts = 1;
    private boolean hasImage = false;

    public TillTheyMeet() {
        for (int i = 0; i < FIRST_TEXT.length(); i++) reader.append(FIRST_TEXT.charAt(i));
        reader.readText();
        reader.size = 0;
        Rule first = reader.ruleOf(0);
        rules[0] = first;
        now = new Road(first);
        kept = new Road(first);
        plan = new Road(first);
        trial = new Road(first);
        for (int i = 0; i < SHEETS; i++) sheets[i] = new Sheet();
    }

    // ---- the road, gangs

    public int ground(int yard, int what, int v) {
        if (!isYard(yard) || !within(what, 0, 1)) return BAD;
        if (!within(v, 0, what == 0 ? LAST_GROUND : 1)) return BAD;
        if (what == 0 && now.doerOf(yard) != NONE) return STATE;
        int[] row = what == 0 ? now.ground : now.known;
        int was = row[yard];
        row[yard] = v;
        return was;
    }

    public int yard(int yard, int what) {
        if (!isYard(yard)) return BAD;
        switch (what) {
            case 0: return now.ground[yard];
            case 1: return now.known[yard];
            case 2: return now.doerOf(yard);
            case 3: return now.ask(Rule.NEED, yard, now.upward.men);
            default: return BAD;
        }
    }

    public int gang(int gang, int kind, int number) {
        if (!isGang(gang) || !within(kind, 0, LAST_KIND) || !within(number, 0, LAST_NUMBER)) return BAD;
        Gang g = now.gangOf(gang);
        int was = g.kind;
        g.kind = kind;
        g.number = number;
        return was;
    }

    public int set(int what, int v) {
        if (!within(what, 0, SET_MOST.length - 1) || !within(v, SET_LEAST[what], SET_MOST[what])) return BAD;
        int was;
        switch (what) {
            case 0: case 1:
                Gang g = now.gangOf(what);
                was = g.men;
                g.men = v;
                return was;
            case 2:
                was = now.payYard;
                now.payYard = v;
                return was;
            case 3:
                was = now.payDay;
                now.payDay = v;
                return was;
            default:
                was = now.wage;
                now.wage = v;
                return was;
        }
    }

    public int told(int gang, int what) {
        if (!isGang(gang)) return BAD;
        Gang g = now.gangOf(gang);
        switch (what) {
            case 0: return g.kind;
            case 1: return g.number;
            case 2: return g.men;
            case 3: return g.done;
            case 4: return g.work;
            case 5: return g.earned;
            case 6: return g.spent;
            case 7: return now.ahead() == 0 ? 0 : doesToday(g);
            case 8: return g.costs();
            default: return BAD;
        }
    }

    private int doesToday(Gang g) {
        int next = g.nextYard();
        return g.does(now.groundOf(next), now.day, now.ask(Rule.RATE, next, g.men));
    }

    // ---- texts

    public int feed(int letter) {
        if (!within(letter, 0, 255)) return BAD;
        return reader.append(letter) ? reader.size : FULL;
    }

    public int text() {
        if (texts >= MOST_TEXTS) return FULL;
        reader.readText();
        reader.size = 0;
        if (reader.fault >= 0) return FAULTY - reader.fault;
        int number = texts;
        rules[number] = reader.ruleOf(number);
        texts++;
        return number;
    }

    public int force(int text) {
        if (!within(text, 0, texts - 1)) return BAD;
        Rule rule = rules[text];
        if (rule == null) return BAD;
        int was = now.rule.number;
        now.rule = rule;
        return was;
    }

    // ---- days

    public int day() {
        now.forgetAnswers();
        now.passDay(NONE);
        return now.ahead();
    }

    public int run(int what) {
        if (!within(what, 0, 5)) return NO_SUCH_RUN;
        trial.copyAll(now);
        int ends = trial.runOut(NONE, 0);
        switch (what) {
            case 0: return ends;
            case 1: return trial.upward.done;
            case 2: return trial.upward.gain();
            case 3: return trial.downward.gain();
            case 4: return trial.paid();
            default: return now.worth() - trial.paid();
        }
    }

    public int done(int gang, int n) {
        if (!isGang(gang) || !within(n, 0, MOST_DAYS)) return BAD;
        trial.copyAll(now);
        for (int i = 0; i < n; i++) trial.passDay(NONE);
        return trial.gangOf(gang).done;
    }

    // ---- what would be best

    public int ease(int gang, int what) {
        if (!isGang(gang) || !within(what, 0, 1)) return NO_SUCH_RUN;
        best.clear();
        for (int k = 0; k <= MOST_EASE; k++) {
            trial.copyAll(now);
            trial.runOut(gang, k);
            best.offer(k, trial.gangOf(gang).gain());
        }
        return what == 0 ? best.at : best.worth;
    }

    public int men(int gang, int what) {
        if (!isGang(gang) || !within(what, 0, 1)) return NO_SUCH_RUN;
        seekMen(now, gang);
        return what == 0 ? best.at : best.worth;
    }

    // BEST MEN of a gang comes to best; the answer is its gain by the men that it has.
    private int seekMen(Road start, int gang) {
        Gang g = trial.gangOf(gang);
        int menNow = start.gangOf(gang).men;
        int gainNow = 0;
        best.clear();
        for (int m = 1; m <= MOST_MEN; m++) {
            trial.copyAll(start);
            g.men = m;
            trial.runOut(NONE, 0);
            best.offer(m, g.gain());
            if (m == menNow) gainNow = g.gain();
        }
        return gainNow;
    }

    public int quarrel(int what) {
        if (!within(what, 0, 2)) return BAD;
        plan.copyAll(now);
        int took = 0;
        int idle = 0;
        for (int turn = 0; turn < QUARREL_TURNS && idle < 2; turn++) {
            int gang = turn % GANGS;
            int gainNow = seekMen(plan, gang);
            if (best.worth > gainNow) {
                plan.gangOf(gang).men = best.at;
                took++;
                idle = 0;
            } else {
                idle++;
            }
        }
        return what == 0 ? took : plan.gangOf(what - 1).men;
    }

    public int bore(int k, int n) {
        if (!isYard(k) || !within(n, 1, YARDS) || k + n > YARDS) return BAD;
        int fresh = 0;
        for (int y = k; y < k + n; y++) {
            if (now.known[y] == 0) fresh++;
            now.known[y] = 1;
        }
        return fresh;
    }

    public int well(int gang) {
        if (!isGang(gang)) return BAD;
        int next = now.gangOf(gang).nextYard();
        int step = gang == 0 ? 1 : -1;
        int left = now.ahead();
        for (int i = 0; i < left; i++) {
            if (now.groundOf(next + step * i) >= BAD_GROUND) return i;
        }
        return NONE;
    }

    public int slowed(int gang, int sheet) {
        Sheet s = sheetOf(sheet);
        if (!isGang(gang) || s == null) return BAD;
        if (s.isMissing()) return MISSING;
        int next = now.gangOf(gang).nextYard();
        if (now.ahead() == 0 || !isYard(next)) return STATE;
        int bits = 0;
        for (int ground = 0; ground <= LAST_GROUND; ground++) {
            trial.copyAll(now);
            trial.ground[next] = ground;
            if (goesAs(s, gang)) bits |= 1 << ground;
        }
        return bits;
    }

    private boolean goesAs(Sheet s, int gang) {
        Gang g = trial.gangOf(gang);
        for (int i = 0; i < s.size && i < SHEET_ITEMS; i++) {
            trial.passDay(NONE);
            if (g.done != s.items[i]) return false;
        }
        return true;
    }

    public int bet(int a, int b, int c) {
        if (!within(a, 0, YARDS) || !within(b, 0, YARDS) || !within(c, 0, YARDS)) return BAD;
        trial.copyAll(now);
        trial.runOut(NONE, 0);
        int meeting = trial.upward.done;
        best.clear();
        best.offer(a, -Math.abs(a - meeting));
        best.offer(b, -Math.abs(b - meeting));
        best.offer(c, -Math.abs(c - meeting));
        return best.at;
    }

    public int soonest(int what) {
        if (!within(what, 0, 1)) return BAD;
        best.clear();
        for (int m = 1; m < SHARED_MEN; m++) {
            trial.copyAll(now);
            trial.upward.men = m;
            trial.downward.men = SHARED_MEN - m;
            best.offer(m, -trial.runOut(NONE, 0));
        }
        return what == 0 ? best.at : -best.worth;
    }

    public int cheapest() {
        for (int pay = 0; pay <= DEAREST_PAY; pay += PAY_STEP) {
            trial.copyAll(now);
            trial.payYard = pay;
            trial.runOut(NONE, 0);
            if (trial.upward.gain() >= 0 && trial.downward.gain() >= 0) return pay;
        }
        return NONE;
    }

    public int drawn(int seed) {
        trial.copyAll(now);
        int z = seed;
        for (int y = 0; y < YARDS; y++) {
            if (now.doerOf(y) != NONE) continue;
            z = z * 1103515245 + 12345;
            trial.ground[y] = (z >>> 12) % 4;
        }
        return trial.runOut(NONE, 0);
    }

    public long chance(int seed, int many, int most, int part) {
        if (!within(many, 1, MOST_SEEDS) || !within(most, 0, MOST_DAYS) || !within(part, 0, 1)) return NO;
        int hits = 0;
        for (int i = 0; i < many; i++) {
            if (drawn(seed + i) <= most) hits++;
        }
        int shared = commonPart(hits, many);
        if (shared < 1) return NO;
        return part == 0 ? hits / shared : many / shared;
    }

    // The greatest number that divides both; it is at least 1, for most is.
    private static int commonPart(int less, int most) {
        for (int d = most; d > 1; d--) {
            if (less % d == 0 && most % d == 0) return d;
        }
        return 1;
    }

    public int image() {
        kept.copyKept(now);
        hasImage = true;
        return now.day;
    }

    public int back() {
        if (!hasImage) return STATE;
        now.copyKept(kept);
        return now.day;
    }

    public int count(int what) {
        switch (what) {
            case 0: return now.ahead();
            case 1: return now.day;
            case 2: return now.payYard;
            case 3: return now.payDay;
            case 4: return now.wage;
            case 5: return texts;
            case 6: return reader.size;
            case 7: return now.rule.number;
            default: return BAD;
        }
    }

    // ---- the host

    public int sheet(int sheet, int sort, int n) {
        Sheet s = sheetOf(sheet);
        if (s == null || !within(sort, NONE, LAST_SORT)) return BAD;
        if (sort != NONE && n > SHEET_ITEMS) return BAD;
        if (sort != NONE && n < 0) return BELOW_ZERO;
        s.become(sort, sort == NONE ? 0 : n);
        return 1;
    }

    public int cell(int sheet, int i, int v) {
        Sheet s = sheetOf(sheet);
        if (s == null) return BAD;
        if (s.isMissing()) return MISSING;
        if (!s.has(i)) return OUTSIDE;
        s.items[i] = s.cut(v);
        return 1;
    }

    public int copy(int sheet, int i, int other, int j, int n) {
        Sheet from = sheetOf(sheet);
        Sheet to = sheetOf(other);
        if (from == null || to == null) return BAD;
        if (from.isMissing() || to.isMissing()) return MISSING;
        if (from.sort != to.sort) return UNLIKE;
        if (!from.hasSpan(i, n) || !to.hasSpan(j, n)) return OUTSIDE;
        System.arraycopy(from.items, i, to.items, j, n);
        return n;
    }

    public int grounds(int sheet, int sort, int from, int n) {
        Sheet s = sheetOf(sheet);
        if (s == null || !within(sort, 0, LAST_SORT) || !within(n, 0, MOST_PAIRS)) return BAD;
        if (!s.isMissing() && s.sort != sort) return UNLIKE;
        if (s.isMissing()) return MISSING;
        int became = 0;
        for (int pair = 0; pair < n; pair++) {
            int i = from + 2 * pair;
            if (!s.has(i) || !s.has(i + 1)) return OUTSIDE;
            if (ground(s.items[i], 0, s.items[i + 1]) >= 0) became++;
        }
        return became;
    }

    public int taken(int gang, int k) {
        if (!within(k, 0, LAST_KIND)) return BAD;
        if (!isGang(gang)) return MISSING;
        Gang g = now.gangOf(gang);
        return g.isUnder(k) ? g.number : UNLIKE;
    }

    private static boolean within(int v, int least, int most) {
        return least <= v && v <= most;
    }

    private static boolean isYard(int yard) {
        return 0 <= yard && yard < YARDS;
    }

    private static boolean isGang(int gang) {
        return 0 <= gang && gang < GANGS;
    }

    // null: no such sheet.
    private Sheet sheetOf(int sheet) {
        return 0 <= sheet && sheet < SHEETS ? sheets[sheet] : null;
    }

    /** One of the two gangs. */
    private static final class Gang {
        private static final int STEADY = 1, SLY = 2, NIGHT = 3, LAZY = 4, PROUD = 5;
        // By a kind: the one that it is under.
        private static final int[] UNDER = {-1, 0, 0, 1, 2, 1};

        final boolean goesUp;
        int kind = 0;
        int number = 0;
        int men = 10;
        int done = 0;
        int work = 0;
        int earned = 0;
        int spent = 0;
        // What rate and need last answered in this RUN, and how many yards were ahead by then (NONE: not asked).
        final int[] askedAt = {NONE, NONE};
        final int[] answered = new int[2];

        Gang(boolean goesUp) {
            this.goesUp = goesUp;
        }

        int nextYard() {
            return goesUp ? done : LAST_YARD - done;
        }

        int gain() {
            return earned - spent;
        }

        int does(int ground, int day, int rate) {
            int half = rate / 2 + 10;
            int sly = day % 2 == 1 && ground == number % 4 ? 0 : rate;
            switch (kind) {
                case STEADY: return half;
                case SLY: return sly;
                case NIGHT: return isNight(day) ? 2 * half : half;
                case LAZY: return Math.max(0, sly - 3 * ground);
                case PROUD: return ground == LAST_GROUND ? half + number : half;
                default: return rate;
            }
        }

        private boolean isNight(int day) {
            int every = number + 2;
            return every > 0 && day % every == 0;
        }

        int costs() {
            switch (kind) {
                case STEADY: return number;
                case NIGHT: return 2 * number + 5;
                case LAZY: return 1;
                case PROUD: return Math.max(0, number - 10);
                default: return 0;
            }
        }

        boolean isUnder(int other) {
            int k = kind;
            for (int i = 0; i <= LAST_KIND && within(k, 0, LAST_KIND); i++) {
                if (k == other) return true;
                k = UNDER[k];
            }
            return false;
        }

        void copyKept(Gang from) {
            men = from.men;
            done = from.done;
            work = from.work;
            earned = from.earned;
            spent = from.spent;
        }

        void forgetAnswers() {
            askedAt[Rule.RATE] = NONE;
            askedAt[Rule.NEED] = NONE;
        }
    }

    /** The road with its gangs and days: as it is, as an image keeps it, or as a RUN has it. */
    private static final class Road {
        // By the parts of a text: rate, need, worth.
        private static final int[] LEAST = {0, 1, -999};
        private static final int[] MOST = {999, 999, 999};

        final int[] ground = new int[YARDS];
        final int[] known = new int[YARDS];
        final Gang upward = new Gang(true);
        final Gang downward = new Gang(false);
        int day = 0;
        int payYard = 50;
        int payDay = 0;
        int wage = 3;
        Rule rule;
        // What the NAMES of a text mean, while it is asked.
        final int[] meant = new int[Rule.NAMES];

        Road(Rule rule) {
            this.rule = rule;
        }

        Gang gangOf(int gang) {
            return gang == 0 ? upward : downward;
        }

        int groundOf(int yard) {
            return isYard(yard) ? ground[yard] : 0;
        }

        int ahead() {
            return YARDS - upward.done - downward.done;
        }

        int doerOf(int yard) {
            if (yard < upward.done) return 0;
            return yard > LAST_YARD - downward.done ? 1 : NONE;
        }

        int paid() {
            return upward.earned + downward.earned;
        }

        int worth() {
            int sum = 0;
            for (int y = 0; y < YARDS; y++) sum += ask(Rule.WORTH, y, upward.men);
            return sum;
        }

        int ask(int part, int yard, int men) {
            if (!isYard(yard) || !within(part, 0, Rule.PARTS - 1)) return 0;
            meant[0] = ground[yard];
            meant[1] = men;
            meant[2] = yard;
            meant[3] = ahead();
            meant[4] = day;
            meant[5] = known[yard];
            return Math.max(LEAST[part], Math.min(MOST[part], rule.valueOf(part, meant)));
        }

        // Within one RUN the yards ahead tell both next yards, so an answer holds
        // till a yard is done, if the text does not speak of the day.
        private int askOfNext(int part, Gang g) {
            int ahead = ahead();
            if (g.askedAt[part] == ahead && !rule.speaksOfDay[part]) return g.answered[part];
            int answer = ask(part, g.nextYard(), g.men);
            g.askedAt[part] = ahead;
            g.answered[part] = answer;
            return answer;
        }

        void forgetAnswers() {
            upward.forgetAnswers();
            downward.forgetAnswers();
        }

        private void takeTurn(Gang g) {
            if (ahead() == 0) return;
            g.work += g.does(groundOf(g.nextYard()), day, askOfNext(Rule.RATE, g));
            for (int i = 0; i < YARDS && ahead() > 0; i++) {
                int need = askOfNext(Rule.NEED, g);
                if (g.work < need) break;
                int yard = g.nextYard();
                if (isYard(yard)) known[yard] = 1;
                g.done++;
                g.work -= need;
                g.earned += payYard;
            }
            if (ahead() == 0) g.work = 0;
            g.spent += g.men * wage + g.costs();
            g.earned += payDay;
        }

        /** A day, in which the idler (NONE: nobody) has no turn. */
        void passDay(int idler) {
            if (idler != 0) takeTurn(upward);
            if (idler != 1) takeTurn(downward);
            if (day < LAST_DAY) day++;
        }

        /** RUN, in whose first days the idler has no turn: how many days. */
        int runOut(int idler, int idleDays) {
            int days = 0;
            while (days < MOST_DAYS && ahead() > 0) {
                passDay(days < idleDays ? idler : NONE);
                days++;
            }
            return days;
        }

        void copyKept(Road from) {
            System.arraycopy(from.ground, 0, ground, 0, YARDS);
            System.arraycopy(from.known, 0, known, 0, YARDS);
            upward.copyKept(from.upward);
            downward.copyKept(from.downward);
            day = from.day;
            payYard = from.payYard;
            payDay = from.payDay;
            wage = from.wage;
            rule = from.rule;
        }

        void copyAll(Road from) {
            copyKept(from);
            upward.kind = from.upward.kind;
            upward.number = from.upward.number;
            downward.kind = from.downward.kind;
            downward.number = from.downward.number;
            forgetAnswers();
        }
    }

    /** The best of what was offered; of like ones the first. */
    private static final class Best {
        int at = NONE;
        int worth = 0;
        private boolean empty = true;

        void clear() {
            empty = true;
        }

        void offer(int candidate, int value) {
            if (!empty && value <= worth) return;
            at = candidate;
            worth = value;
            empty = false;
        }
    }

    /** A row of numbers of one sort, or a missing one. */
    private static final class Sheet {
        private static final int BYTES = 0, SHORTS = 1;

        final int[] items = new int[SHEET_ITEMS];
        int sort = NONE;
        int size = 0;

        boolean isMissing() {
            return sort == NONE;
        }

        void become(int newSort, int newSize) {
            sort = newSort;
            size = newSize;
            Arrays.fill(items, 0);
        }

        boolean has(int i) {
            return 0 <= i && i < size;
        }

        boolean hasSpan(int i, int n) {
            return 0 <= i && 0 <= n && n <= size && i <= size - n;
        }

        int cut(int v) {
            if (sort == BYTES) return (byte) v;
            return sort == SHORTS ? (short) v : v;
        }
    }

    /** A text as steps: each puts a number or a name's meaning on a pile, or takes one or two from it and puts one. */
    private static final class Rule {
        static final int RATE = 0, NEED = 1, WORTH = 2, PARTS = 3;
        static final int NAMES = 6, DAY = 4;
        // A step of 0 or more is a number; others are these, and -1 less the place of a name.
        static final int OR = -7, AND = -8, NOT = -9, LESS = -10, SAME = -11;
        static final int PLUS = -12, MINUS = -13, TIMES = -14, NEGATE = -15;
        // Five operands may wait ahead of each of five brackets, five behind them, and one comes.
        private static final int PILE = 40;

        final int number;
        final boolean[] speaksOfDay = new boolean[PARTS];
        private final int[] steps;
        private final int[] bounds;
        private final int[] pile = new int[PILE];

        /** Part p has the steps from bounds[p] on, ahead of bounds[p + 1]. */
        Rule(int number, int[] steps, int[] bounds) {
            this.number = number;
            this.steps = steps;
            this.bounds = bounds;
            for (int part = 0; part < PARTS && part + 1 < bounds.length; part++) {
                for (int i = bounds[part]; i < bounds[part + 1] && i < steps.length; i++) {
                    if (steps[i] == -1 - DAY) speaksOfDay[part] = true;
                }
            }
        }

        // One method, with no helpers: the calls above it go deep already, and RUNs come here most.
        int valueOf(int part, int[] meant) {
            if (part < 0 || part + 1 >= bounds.length || meant.length < NAMES) return 0;
            int end = bounds[part + 1] < steps.length ? bounds[part + 1] : steps.length;
            int top = 0;
            for (int i = bounds[part]; i < end; i++) {
                int step = steps[i];
                if (step >= -NAMES) {
                    if (top >= PILE) return 0;
                    pile[top] = step >= 0 ? step : meant[-1 - step];
                    top++;
                    continue;
                }
                boolean takesOne = step == NOT || step == NEGATE;
                if (top < (takesOne ? 1 : 2)) return 0;
                if (!takesOne) top--;
                int a = pile[top - 1];
                int b = takesOne ? 0 : pile[top];
                int v;
                switch (step) {
                    case OR: v = a != 0 || b != 0 ? 1 : 0; break;
                    case AND: v = a != 0 && b != 0 ? 1 : 0; break;
                    case NOT: v = a == 0 ? 1 : 0; break;
                    case LESS: v = a < b ? 1 : 0; break;
                    case SAME: v = a == b ? 1 : 0; break;
                    case PLUS: v = a + b; break;
                    case MINUS: v = a - b; break;
                    case TIMES: v = a * b; break;
                    default: v = -a; break;
                }
                pile[top - 1] = v;
            }
            return top > 0 ? pile[0] : 0;
        }
    }

    /** The tape, and how a text is read from it. */
    private static final class Reader {
        private static final int TAPE = 160, MOST_DIGITS = 4, MOST_OPEN = 5;
        // Names and keys by their numbers as tokens, each in as many places as WIDTH.
        private static final String WORDS =
                "ground men    yard   ahead  day    known  rate   need   worth  or     and    not    ";
        private static final int WIDTH = 7, WORD_COUNT = 12;
        private static final int LAST_NAME = 5, KEY_RATE = 6, KEY_OR = 9, KEY_AND = 10, KEY_NOT = 11;
        private static final int NUMBER = 12, END = 13, NOTHING = 14;
        private static final String SIGNS = "();+-*<=";
        private static final int OPEN = 15, CLOSE = 16, SEMICOLON = 17, PLUS = 18, MINUS = 19;
        private static final int TIMES = 20, LESS = 21, SAME = 22;
        // What binds least has the lowest level.
        private static final int LEVEL_OR = 0, LEVEL_AND = 1, LEVEL_NOT = 2, LEVEL_SUM = 3, LEVEL_TERM = 4;

        int size = 0;
        int fault = NONE;
        private final int[] tape = new int[TAPE];
        private int place = 0;
        private int token = END;
        private int tokenAt = 0;
        private int value = 0;
        private final int[] steps = new int[TAPE];
        private int stepCount = 0;
        private final int[] bounds = new int[Rule.PARTS + 1];

        boolean append(int letter) {
            if (size >= TAPE) return false;
            tape[size] = letter;
            size++;
            return true;
        }

        Rule ruleOf(int number) {
            return new Rule(number, Arrays.copyOf(steps, stepCount), bounds.clone());
        }

        void readText() {
            place = 0;
            fault = NONE;
            stepCount = 0;
            advance();
            for (int part = 0; part < Rule.PARTS; part++) {
                expect(KEY_RATE + part);
                readLevel(LEVEL_OR, 0);
                expect(SEMICOLON);
                bounds[part + 1] = stepCount;
            }
            if (token != END) refuse();
        }

        private void refuse() {
            if (fault == NONE) fault = tokenAt;
            token = NOTHING;
        }

        private void expect(int wanted) {
            if (token == wanted) advance();
            else refuse();
        }

        private void put(int step) {
            if (stepCount >= TAPE) return;
            steps[stepCount] = step;
            stepCount++;
        }

        private void readLevel(int level, int open) {
            if (level > LEVEL_TERM) {
                readOne(open);
                return;
            }
            if (level == LEVEL_NOT && token == KEY_NOT) {
                if (!opens(open)) return;
                readLevel(LEVEL_NOT, open + 1);
                put(Rule.NOT);
                return;
            }
            readLevel(level + 1, open);
            int most = level == LEVEL_NOT ? 1 : TAPE;
            for (int i = 0; i < most && stepAt(level) < 0; i++) {
                int step = stepAt(level);
                advance();
                readLevel(level + 1, open);
                put(step);
            }
        }

        private void readOne(int open) {
            if (token == NUMBER) {
                put(value);
                advance();
            } else if (token <= LAST_NAME) {
                put(-1 - token);
                advance();
            } else if (token == MINUS) {
                if (!opens(open)) return;
                readOne(open + 1);
                put(Rule.NEGATE);
            } else if (token == OPEN) {
                if (!opens(open)) return;
                readLevel(LEVEL_OR, open + 1);
                expect(CLOSE);
            } else {
                refuse();
            }
        }

        private boolean opens(int open) {
            if (open >= MOST_OPEN) {
                refuse();
                return false;
            }
            advance();
            return true;
        }

        // The step by which the token joins two of a level; 0: it does not.
        private int stepAt(int level) {
            switch (token) {
                case KEY_OR: return level == LEVEL_OR ? Rule.OR : 0;
                case KEY_AND: return level == LEVEL_AND ? Rule.AND : 0;
                case LESS: return level == LEVEL_NOT ? Rule.LESS : 0;
                case SAME: return level == LEVEL_NOT ? Rule.SAME : 0;
                case PLUS: return level == LEVEL_SUM ? Rule.PLUS : 0;
                case MINUS: return level == LEVEL_SUM ? Rule.MINUS : 0;
                case TIMES: return level == LEVEL_TERM ? Rule.TIMES : 0;
                default: return 0;
            }
        }

        private void advance() {
            if (fault != NONE) return;
            while (place < size && isBlank(tape[place])) place++;
            tokenAt = place;
            if (place >= size) {
                token = END;
                return;
            }
            int letter = tape[place];
            if (isDigit(letter)) readNumber();
            else if (isLetter(letter)) readWord();
            else readSign(letter);
        }

        private void readNumber() {
            value = 0;
            while (place < size && isDigit(tape[place])) {
                value = value * 10 + tape[place] - '0';
                place++;
            }
            token = place - tokenAt <= MOST_DIGITS ? NUMBER : NOTHING;
        }

        private void readWord() {
            while (place < size && isLetter(tape[place])) place++;
            token = NOTHING;
            for (int word = 0; word < WORD_COUNT; word++) {
                if (spells(word)) token = word;
            }
        }

        private boolean spells(int word) {
            int length = place - tokenAt;
            if (length >= WIDTH) return false;
            for (int i = 0; i < WIDTH; i++) {
                int letter = i < length ? tape[tokenAt + i] : ' ';
                if (WORDS.charAt(word * WIDTH + i) != letter) return false;
            }
            return true;
        }

        private void readSign(int letter) {
            int sign = SIGNS.indexOf((char) letter);
            token = sign < 0 ? NOTHING : OPEN + sign;
            place++;
        }

        private static boolean isBlank(int letter) {
            return letter == 32 || letter == 10;
        }

        private static boolean isDigit(int letter) {
            return '0' <= letter && letter <= '9';
        }

        private static boolean isLetter(int letter) {
            return 'a' <= letter && letter <= 'z';
        }
    }
}
