import java.util.ArrayList;
import java.util.Arrays;
import java.util.List;
import java.util.Map;
import java.util.function.ToIntFunction;

/**
 * The document written a second time, as plainly as can be and in other ways than the class: yards that know who
 * did them, kinds as classes, texts as functions, nothing remembered. ModelTest holds the class against it.
 */
final class Model {
    static final long NO = -4611686018427387904L;

    // ---- kinds

    static class Gang implements Cloneable {
        int number, men = 10, done, work, earned, spent;

        int does(int g, int d, int rate) { return rate; }
        int costs() { return 0; }

        final Gang as(Gang old) {
            men = old.men; done = old.done; work = old.work; earned = old.earned; spent = old.spent;
            return this;
        }

        final Gang twin() {
            try {
                return (Gang) clone();
            } catch (CloneNotSupportedException e) {
                throw new IllegalStateException(e);
            }
        }
    }

    static class Steady extends Gang {
        @Override int does(int g, int d, int rate) { return super.does(g, d, rate) / 2 + 10; }
        @Override int costs() { return super.costs() + number; }
    }

    static class Sly extends Gang {
        @Override int does(int g, int d, int rate) {
            if ((d & 1) == 1 && g == number % 4) return 0;
            return super.does(g, d, rate);
        }
    }

    static final class Night extends Steady {
        @Override int does(int g, int d, int rate) { return super.does(g, d, rate) * (d % (number + 2) == 0 ? 2 : 1); }
        @Override int costs() { return 2 * super.costs() + 5; }
    }

    static final class Lazy extends Sly {
        @Override int does(int g, int d, int rate) { return super.does(g, d, rate) - 3 * g; }
        @Override int costs() { return super.costs() + 1; }
    }

    static final class Proud extends Steady {
        @Override int does(int g, int d, int rate) { return super.does(g, d, rate) + (g == 3 ? number : 0); }
        @Override int costs() { return super.costs() - 10; }
    }

    private static final List<Class<? extends Gang>> KINDS =
            List.of(Gang.class, Steady.class, Sly.class, Night.class, Lazy.class, Proud.class);

    private static Gang make(int kind) {
        switch (kind) {
            case 0: return new Gang();
            case 1: return new Steady();
            case 2: return new Sly();
            case 3: return new Night();
            case 4: return new Lazy();
            default: return new Proud();
        }
    }

    // ---- texts

    private static final class Fault extends RuntimeException {
        private static final long serialVersionUID = 1L;
        final int place;

        Fault(int place) {
            super(null, null, false, false);
            this.place = place;
        }
    }

    /** What the names mean while a text is asked. */
    private record Asked(Map<String, Integer> names) { }

    private record Token(String letters, int place) { }

    private static final class Parser {
        private final List<Token> tokens = new ArrayList<>();
        private int at = 0;
        private int open = 0;

        Parser(String tape) {
            int i = 0;
            while (i < tape.length()) {
                char c = tape.charAt(i);
                if (c == ' ' || c == '\n') {
                    i++;
                    continue;
                }
                int j = i + 1;
                if (c >= 'a' && c <= 'z') while (j < tape.length() && tape.charAt(j) >= 'a' && tape.charAt(j) <= 'z') j++;
                if (c >= '0' && c <= '9') while (j < tape.length() && tape.charAt(j) >= '0' && tape.charAt(j) <= '9') j++;
                tokens.add(new Token(tape.substring(i, j), i));
                i = j;
            }
            tokens.add(new Token("", tape.length()));
        }

        private String peek() { return tokens.get(at).letters(); }

        private boolean eat(String s) {
            if (!peek().equals(s)) return false;
            at++;
            return true;
        }

        private void must(String s) {
            if (!eat(s)) throw new Fault(tokens.get(at).place());
        }

        private void open() {
            if (open == 5) throw new Fault(tokens.get(at - 1).place());
            open++;
        }

        List<ToIntFunction<Asked>> text() {
            List<ToIntFunction<Asked>> parts = new ArrayList<>();
            for (String key : new String[] {"rate", "need", "worth"}) {
                must(key);
                parts.add(e());
                must(";");
            }
            if (at != tokens.size() - 1) throw new Fault(tokens.get(at).place());
            return parts;
        }

        private ToIntFunction<Asked> e() {
            ToIntFunction<Asked> left = and();
            while (eat("or")) {
                ToIntFunction<Asked> l = left, r = and();
                left = x -> (l.applyAsInt(x) != 0 | r.applyAsInt(x) != 0) ? 1 : 0;
            }
            return left;
        }

        private ToIntFunction<Asked> and() {
            ToIntFunction<Asked> left = not();
            while (eat("and")) {
                ToIntFunction<Asked> l = left, r = not();
                left = x -> (l.applyAsInt(x) != 0 & r.applyAsInt(x) != 0) ? 1 : 0;
            }
            return left;
        }

        private ToIntFunction<Asked> not() {
            if (eat("not")) {
                open();
                ToIntFunction<Asked> of = not();
                open--;
                return x -> of.applyAsInt(x) == 0 ? 1 : 0;
            }
            ToIntFunction<Asked> l = sum();
            if (eat("<")) {
                ToIntFunction<Asked> r = sum();
                return x -> l.applyAsInt(x) < r.applyAsInt(x) ? 1 : 0;
            }
            if (eat("=")) {
                ToIntFunction<Asked> r = sum();
                return x -> l.applyAsInt(x) == r.applyAsInt(x) ? 1 : 0;
            }
            return l;
        }

        private ToIntFunction<Asked> sum() {
            ToIntFunction<Asked> left = term();
            while (true) {
                ToIntFunction<Asked> l = left;
                if (eat("+")) {
                    ToIntFunction<Asked> r = term();
                    left = x -> l.applyAsInt(x) + r.applyAsInt(x);
                } else if (eat("-")) {
                    ToIntFunction<Asked> r = term();
                    left = x -> l.applyAsInt(x) - r.applyAsInt(x);
                } else {
                    return left;
                }
            }
        }

        private ToIntFunction<Asked> term() {
            ToIntFunction<Asked> left = one();
            while (eat("*")) {
                ToIntFunction<Asked> l = left, r = one();
                left = x -> l.applyAsInt(x) * r.applyAsInt(x);
            }
            return left;
        }

        private ToIntFunction<Asked> one() {
            Token t = tokens.get(at);
            if (t.letters().matches("[0-9]{1,4}")) {
                at++;
                int v = Integer.parseInt(t.letters());
                return x -> v;
            }
            if (t.letters().matches("ground|men|yard|ahead|day|known")) {
                at++;
                return x -> x.names().get(t.letters());
            }
            if (eat("-")) {
                open();
                ToIntFunction<Asked> of = one();
                open--;
                return x -> -of.applyAsInt(x);
            }
            if (eat("(")) {
                open();
                ToIntFunction<Asked> of = e();
                must(")");
                open--;
                return of;
            }
            throw new Fault(t.place());
        }
    }

    // ---- the road

    private static final class State {
        int[] ground = new int[24];
        boolean[] known = new boolean[24];
        int[] doer = new int[24];
        Gang[] gangs = {new Gang(), new Gang()};
        int day, payYard = 50, payDay, wage = 3, rule;
        List<List<ToIntFunction<Asked>>> texts;

        State(List<List<ToIntFunction<Asked>>> texts) {
            this.texts = texts;
            Arrays.fill(doer, -1);
        }

        State twin() {
            State s = new State(texts);
            s.ground = ground.clone();
            s.known = known.clone();
            s.doer = doer.clone();
            s.gangs = new Gang[] {gangs[0].twin(), gangs[1].twin()};
            s.day = day; s.payYard = payYard; s.payDay = payDay; s.wage = wage; s.rule = rule;
            return s;
        }

        int left() {
            int n = 0;
            for (int d : doer) if (d < 0) n++;
            return n;
        }

        int next(int gang) {
            if (gang == 0) {
                for (int y = 0; y < 24; y++) if (doer[y] < 0) return y;
            } else {
                for (int y = 23; y >= 0; y--) if (doer[y] < 0) return y;
            }
            return -1;
        }

        int ask(int part, int yard, int men) {
            Asked x = new Asked(Map.of("ground", ground[yard], "men", men, "yard", yard, "ahead", left(),
                    "day", day, "known", known[yard] ? 1 : 0));
            int v = texts.get(rule).get(part).applyAsInt(x);
            int least = part == 0 ? 0 : part == 1 ? 1 : -999;
            return v < least ? least : v > 999 ? 999 : v;
        }

        int does(int gang) {
            int y = next(gang);
            if (y < 0) return 0;
            return Math.max(0, gangs[gang].does(ground[y], day, ask(0, y, gangs[gang].men)));
        }

        int costs(int gang) { return Math.max(0, gangs[gang].costs()); }

        void turn(int gang) {
            if (left() == 0) return;
            Gang g = gangs[gang];
            g.work += does(gang);
            while (left() > 0) {
                int y = next(gang);
                int need = ask(1, y, g.men);
                if (g.work < need) break;
                doer[y] = gang;
                known[y] = true;
                g.done++;
                g.work -= need;
                g.earned += payYard;
            }
            if (left() == 0) g.work = 0;
            g.spent += g.men * wage + costs(gang);
            g.earned += payDay;
        }

        void day(boolean first, boolean second) {
            if (first) turn(0);
            if (second) turn(1);
            day = Math.min(999, day + 1);
        }

        int run() {
            int days = 0;
            while (days < 300 && left() > 0) {
                day(true, true);
                days++;
            }
            return days;
        }

        int gain(int gang) { return gangs[gang].earned - gangs[gang].spent; }
    }

    private final List<List<ToIntFunction<Asked>>> texts = new ArrayList<>();
    private State now = new State(texts);
    private State image;
    private final StringBuilder tape = new StringBuilder();
    private final Object[] sheets = new Object[4];

    Model() {
        texts.add(new Parser("rate men * 4 ; need 30 + ground * 25 ; worth 0 ;").text());
    }

    private static boolean in(int v, int least, int most) { return v >= least && v <= most; }

    int ground(int yard, int what, int v) {
        if (!in(yard, 0, 23) || !in(what, 0, 1) || !in(v, 0, what == 0 ? 3 : 1)) return -2;
        if (what == 1) {
            int was = now.known[yard] ? 1 : 0;
            now.known[yard] = v == 1;
            return was;
        }
        if (now.doer[yard] >= 0) return -3;
        int was = now.ground[yard];
        now.ground[yard] = v;
        return was;
    }

    int yard(int yard, int what) {
        if (!in(yard, 0, 23) || !in(what, 0, 3)) return -2;
        if (what == 0) return now.ground[yard];
        if (what == 1) return now.known[yard] ? 1 : 0;
        if (what == 2) return now.doer[yard];
        return now.ask(1, yard, now.gangs[0].men);
    }

    private static int kind(Gang g) { return KINDS.indexOf(g.getClass()); }

    int gang(int gang, int kind, int number) {
        if (!in(gang, 0, 1) || !in(kind, 0, 5) || !in(number, 0, 9)) return -2;
        int was = kind(now.gangs[gang]);
        now.gangs[gang] = make(kind).as(now.gangs[gang]);
        now.gangs[gang].number = number;
        return was;
    }

    int set(int what, int v) {
        int was;
        if (what == 0 || what == 1) {
            if (!in(v, 1, 30)) return -2;
            was = now.gangs[what].men;
            now.gangs[what].men = v;
        } else if (what == 2) {
            if (!in(v, 0, 999)) return -2;
            was = now.payYard;
            now.payYard = v;
        } else if (what == 3) {
            if (!in(v, 0, 999)) return -2;
            was = now.payDay;
            now.payDay = v;
        } else if (what == 4) {
            if (!in(v, 0, 99)) return -2;
            was = now.wage;
            now.wage = v;
        } else {
            return -2;
        }
        return was;
    }

    int told(int gang, int what) {
        if (!in(gang, 0, 1) || !in(what, 0, 8)) return -2;
        Gang g = now.gangs[gang];
        int[] all = {kind(g), g.number, g.men, g.done, g.work, g.earned, g.spent, now.does(gang), now.costs(gang)};
        return all[what];
    }

    int feed(int letter) {
        if (!in(letter, 0, 255)) return -2;
        if (tape.length() == 160) return -4;
        tape.append((char) letter);
        return tape.length();
    }

    int text() {
        if (texts.size() == 6) return -4;
        String s = tape.toString();
        tape.setLength(0);
        try {
            texts.add(new Parser(s).text());
            return texts.size() - 1;
        } catch (Fault f) {
            return -100 - f.place;
        }
    }

    int force(int text) {
        if (!in(text, 0, texts.size() - 1)) return -2;
        int was = now.rule;
        now.rule = text;
        return was;
    }

    int day() {
        now.day(true, true);
        return now.left();
    }

    int run(int what) {
        if (!in(what, 0, 5)) return -100000;
        State s = now.twin();
        int ends = s.run();
        int paid = s.gangs[0].earned + s.gangs[1].earned;
        int county = -paid;
        for (int y = 0; y < 24; y++) county += now.ask(2, y, now.gangs[0].men);
        return new int[] {ends, s.gangs[0].done, s.gain(0), s.gain(1), paid, county}[what];
    }

    int done(int gang, int n) {
        if (!in(gang, 0, 1) || !in(n, 0, 300)) return -2;
        State s = now.twin();
        for (int i = 0; i < n; i++) s.day(true, true);
        return s.gangs[gang].done;
    }

    int ease(int gang, int what) {
        if (!in(gang, 0, 1) || !in(what, 0, 1)) return -100000;
        int[] gains = new int[11];
        for (int k = 0; k <= 10; k++) {
            State s = now.twin();
            for (int i = 0; i < 300 && s.left() > 0; i++) s.day(gang != 0 || i >= k, gang != 1 || i >= k);
            gains[k] = s.gain(gang);
        }
        return best(gains, 0, what);
    }

    /** The place of the greatest (the first of like ones), counted from base, or the greatest. */
    private static int best(int[] gains, int base, int what) {
        int most = Arrays.stream(gains).max().getAsInt();
        if (what == 1) return most;
        int k = 0;
        while (gains[k] != most) k++;
        return base + k;
    }

    private static int[] gainsByMen(State start, int gang) {
        int[] gains = new int[30];
        for (int m = 1; m <= 30; m++) {
            State s = start.twin();
            s.gangs[gang].men = m;
            s.run();
            gains[m - 1] = s.gain(gang);
        }
        return gains;
    }

    int men(int gang, int what) {
        if (!in(gang, 0, 1) || !in(what, 0, 1)) return -100000;
        return best(gainsByMen(now, gang), 1, what);
    }

    int quarrel(int what) {
        if (!in(what, 0, 2)) return -2;
        State s = now.twin();
        List<Boolean> took = new ArrayList<>();
        while (took.size() < 8) {
            int n = took.size();
            if (n >= 2 && !took.get(n - 1) && !took.get(n - 2)) break;
            Gang g = s.gangs[n % 2];
            int[] gains = gainsByMen(s, n % 2);
            int m = best(gains, 1, 0);
            boolean takes = gains[m - 1] > gains[g.men - 1];
            if (takes) g.men = m;
            took.add(takes);
        }
        if (what > 0) return s.gangs[what - 1].men;
        int n = 0;
        for (boolean b : took) if (b) n++;
        return n;
    }

    int bore(int k, int n) {
        if (!in(k, 0, 23) || !in(n, 1, 24) || k + n - 1 > 23) return -2;
        int fresh = 0;
        for (int i = 0; i < n; i++) {
            if (!now.known[k + i]) fresh++;
            now.known[k + i] = true;
        }
        return fresh;
    }

    int well(int gang) {
        if (!in(gang, 0, 1)) return -2;
        int n = 0;
        for (int i = 0; i < 24; i++) {
            int y = gang == 0 ? i : 23 - i;
            if (now.doer[y] >= 0) continue;
            if (now.ground[y] >= 2) return n;
            n++;
        }
        return -1;
    }

    private int size(int sheet) {
        Object s = sheets[sheet];
        if (s instanceof byte[] b) return b.length;
        if (s instanceof short[] h) return h.length;
        return ((int[]) s).length;
    }

    private int item(int sheet, int i) {
        Object s = sheets[sheet];
        if (s instanceof byte[] b) return b[i];
        if (s instanceof short[] h) return h[i];
        return ((int[]) s)[i];
    }

    int slowed(int gang, int sheet) {
        if (!in(gang, 0, 1) || !in(sheet, 0, 3)) return -2;
        if (sheets[sheet] == null) return -11;
        if (now.left() == 0) return -3;
        int bits = 0;
        for (int g = 0; g < 4; g++) {
            State s = now.twin();
            s.ground[s.next(gang)] = g;
            boolean so = true;
            for (int i = 0; i < size(sheet); i++) {
                s.day(true, true);
                so &= s.gangs[gang].done == item(sheet, i);
            }
            if (so) bits += 1 << g;
        }
        return bits;
    }

    int bet(int a, int b, int c) {
        if (!in(a, 0, 24) || !in(b, 0, 24) || !in(c, 0, 24)) return -2;
        int m = run(1);
        int da = Math.abs(a - m), db = Math.abs(b - m), dc = Math.abs(c - m);
        if (da <= db && da <= dc) return a;
        return db <= dc ? b : c;
    }

    int soonest(int what) {
        if (!in(what, 0, 1)) return -2;
        int least = 1000, men = 0;
        for (int m = 19; m >= 1; m--) {
            State s = now.twin();
            s.gangs[0].men = m;
            s.gangs[1].men = 20 - m;
            int ends = s.run();
            if (ends <= least) {
                least = ends;
                men = m;
            }
        }
        return what == 0 ? men : least;
    }

    int cheapest() {
        for (int p = 0; p <= 20; p++) {
            State s = now.twin();
            s.payYard = 5 * p;
            s.run();
            if (!(s.gain(0) < 0 || s.gain(1) < 0)) return 5 * p;
        }
        return -1;
    }

    int drawn(int seed) {
        State s = now.twin();
        int z = seed;
        for (int y = 0; y < 24; y++) {
            if (s.doer[y] >= 0) continue;
            z = z * 1103515245 + 12345;
            s.ground[y] = (z >>> 12) % 4;
        }
        return s.run();
    }

    long chance(int seed, int many, int most, int part) {
        if (!in(many, 1, 30) || !in(most, 0, 300) || !in(part, 0, 1)) return NO;
        int n = 0;
        for (int i = 0; i < many; i++) if (drawn(seed + i) <= most) n++;
        int d = java.math.BigInteger.valueOf(n).gcd(java.math.BigInteger.valueOf(many)).intValue();
        return part == 0 ? n / d : many / d;
    }

    int image() {
        image = now.twin();
        return now.day;
    }

    int back() {
        if (image == null) return -3;
        Gang[] were = now.gangs;
        now = image.twin();
        for (int g = 0; g < 2; g++) {
            Gang old = now.gangs[g];
            now.gangs[g] = were[g].twin().as(old);
        }
        return now.day;
    }

    int count(int what) {
        if (!in(what, 0, 7)) return -2;
        return new int[] {now.left(), now.day, now.payYard, now.payDay, now.wage, texts.size(), tape.length(), now.rule}[what];
    }

    int sheet(int sheet, int sort, int n) {
        if (!in(sheet, 0, 3) || !in(sort, -1, 2)) return -2;
        if (sort == -1) {
            sheets[sheet] = null;
            return 1;
        }
        if (n > 40) return -2;
        if (n < 0) return -14;
        sheets[sheet] = sort == 0 ? new byte[n] : sort == 1 ? new short[n] : new int[n];
        return 1;
    }

    int cell(int sheet, int i, int v) {
        if (!in(sheet, 0, 3)) return -2;
        Object s = sheets[sheet];
        if (s == null) return -11;
        if (i < 0 || i >= size(sheet)) return -12;
        if (s instanceof byte[] b) b[i] = (byte) v;
        else if (s instanceof short[] h) h[i] = (short) v;
        else ((int[]) s)[i] = v;
        return 1;
    }

    int copy(int sheet, int i, int other, int j, int n) {
        if (!in(sheet, 0, 3) || !in(other, 0, 3)) return -2;
        if (sheets[sheet] == null || sheets[other] == null) return -11;
        if (sheets[sheet].getClass() != sheets[other].getClass()) return -13;
        try {
            System.arraycopy(sheets[sheet], i, sheets[other], j, n);
        } catch (IndexOutOfBoundsException e) {
            return -12;
        }
        return n;
    }

    int grounds(int sheet, int sort, int from, int n) {
        if (!in(sheet, 0, 3) || !in(sort, 0, 2) || !in(n, 0, 20)) return -2;
        int[] row;
        try {
            if (sort == 0) {
                byte[] b = (byte[]) sheets[sheet];
                row = new int[b.length];
            } else if (sort == 1) {
                short[] h = (short[]) sheets[sheet];
                row = new int[h.length];
            } else {
                int[] w = (int[]) sheets[sheet];
                row = new int[w.length];
            }
        } catch (ClassCastException e) {
            return -13;
        } catch (NullPointerException e) {
            return -11;
        }
        for (int i = 0; i < row.length; i++) row[i] = item(sheet, i);
        int became = 0;
        try {
            for (int k = 0; k < n; k++) {
                int y = row[from + 2 * k];
                int g = row[from + 2 * k + 1];
                if (ground(y, 0, g) >= 0) became++;
            }
        } catch (IndexOutOfBoundsException e) {
            return -12;
        }
        return became;
    }

    int taken(int gang, int k) {
        if (!in(k, 0, 5)) return -2;
        if (!in(gang, 0, 1)) return -11;
        return KINDS.get(k).isInstance(now.gangs[gang]) ? now.gangs[gang].number : -13;
    }
}
