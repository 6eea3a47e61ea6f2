import java.util.Arrays;
import java.util.Random;

/** Runs of calls, drawn by fixed seeds, on the class and on the Model: every answer must be the Model's. */
public final class ModelTest {
    private static final int RUNS = 260;
    private static final int CALLS = 512;
    private static final int[] WILD = {Integer.MIN_VALUE, Integer.MAX_VALUE, -1, -2, 1000, 100000, 256, -300};
    private static final String[] GOOD = {
        "rate men * 4 ; need 30 + ground * 25 ; worth 0 ;",
        "rate men-day;need 9+known*50;worth ahead-yard*ground;",
        "rate men * (3 + (day < 6)) ; need 20 + yard ; worth 10 * ground - 7 ;",
        "rate not known * 90 + men; need ground = 2 or yard < 4 and not day = 3 ; worth - - ground * 400 ;",
        "rate 9999 * 9999 * 9999 ; need 9999 * 9999 * 9999 * 9999 ; worth men * -9999 ;",
        "rate ahead * 3 + men ; need 40 + (ahead - 12) * (ahead - 12) ; worth known ;",
        "rate 5 ; need 900 + ground * 60 ; worth yard * yard - 99 ;",
        "rate men * men ; need 1 + day * 7 + ground * ground * 20 ; worth day - men ;"};
    private static final String[] SCRAPS = {"(", ")", ";", "+", "-", "*", "<", "=", "not", "or", "and", "rate", "need",
        "worth", "ground", "men", "yard", "ahead", "day", "known", "0", "7", "25", "999", "9999", "12345", "rat", "grounds",
        "A", "\n", "/", "\u00ff", "\u0000", "_", "00", ">"};

    private final Due due;
    private final Random random;
    private final TillTheyMeet real = new TillTheyMeet();
    private final Model model = new Model();
    private final StringBuilder trail = new StringBuilder();
    private final boolean heavy;
    private int calls = 0;

    private ModelTest(Due due, long seed) {
        this.due = due;
        random = new Random(seed);
        heavy = seed % 4 == 0;
    }

    public static void main(String[] args) {
        Due due = new Due("against the model");
        int runs = args.length > 0 ? Integer.parseInt(args[0]) : RUNS;
        int base = args.length > 1 ? Integer.parseInt(args[1]) : 0;
        for (int i = base; i < base + runs; i++) new ModelTest(due, i).go(i);
        due.end();
    }

    private void go(int run) {
        try {
            if (random.nextInt(3) > 0) laySomeGround();
            if (random.nextInt(3) > 0) check("image");
            if (random.nextInt(8) == 0) for (int i = 0; i < 6; i++) write("rate " + i + "*men;need 9;worth 1;");
            while (calls < CALLS) step(random.nextInt(100));
        } catch (RuntimeException e) {
            e.printStackTrace(System.out);
            due.is("run " + run + " threw behind " + trail, 1, 0);
        }
    }

    private void laySomeGround() {
        for (int y = 0; y < 24; y++) check("ground", y, 0, random.nextInt(4));
        check("gang", 0, random.nextInt(6), random.nextInt(10));
        check("gang", 1, random.nextInt(6), random.nextInt(10));
    }

    /** Mostly 0 .. most, now and then one beside, or far off. */
    private int about(int most) {
        int r = random.nextInt(60);
        if (r == 0) return WILD[random.nextInt(WILD.length)];
        if (r == 1) return -1;
        if (r == 2) return most + 1;
        if (r == 3) return most;
        return random.nextInt(most + 1);
    }

    private void step(int call) {
        int g = about(1);
        if (model.count(0) == 0 && random.nextInt(6) == 0) check("back");
        if (call < 6) check("ground", about(23), random.nextInt(9) == 0 ? about(1) : 0, about(3));
        else if (call < 10) check("yard", about(23), about(3));
        else if (call < 14) check("gang", g, about(5), about(9));
        else if (call < 20) setSomething();
        else if (call < 28) check("told", g, about(8));
        else if (call < 31) write(someText());
        else if (call < 35) check("force", about(5));
        else if (call < 42) check("day");
        else if (call < 48) check("run", about(5));
        else if (call < 51) check("done", g, random.nextBoolean() ? about(20) : about(300));
        else if (call < 53) check("bore", about(23), 1 + about(random.nextInt(24)));
        else if (call < 56) check("well", g);
        else if (call < 60) slowed(g);
        else if (call < 62) check("bet", about(24), about(24), about(24));
        else if (call < 63) check("drawn", random.nextInt());
        else if (call < 65) check("image");
        else if (call < 67) check("back");
        else if (call < 71) check("count", about(7));
        else if (call < 75) check("sheet", about(3), random.nextInt(12) - 1 > 2 ? random.nextInt(3) : about(3) - 1, about(40));
        else if (call < 82) check("cell", about(3), about(39), random.nextInt(3) == 0 ? random.nextInt() : random.nextInt(25));
        else if (call < 86) check("copy", about(3), about(20), about(3), about(20), about(20));
        else if (call < 90) grounds();
        else if (call < 93) check("taken", g, about(5));
        else dear(call, g);
    }

    private void setSomething() {
        int what = about(4);
        int most = what == 4 ? 99 : what >= 2 ? 999 : 30;
        int v = random.nextInt(3) == 0 ? random.nextInt(most + 2) : random.nextInt(Math.min(most, 40) + 1);
        check("set", what, random.nextInt(20) == 0 ? about(most) : v);
    }

    private void dear(int call, int g) {
        if (!heavy && random.nextInt(4) > 0) check("day");
        else if (call == 93) check("ease", g, about(1));
        else if (call == 94) check("men", g, about(1));
        else if (call == 95) check("quarrel", about(2));
        else if (call == 96) check("soonest", about(1));
        else if (call == 97) check("cheapest");
        else chance();
    }

    private void chance() {
        int seed = random.nextInt();
        int most = random.nextInt(4) == 0 ? about(300) : Math.min(300, model.drawn(seed) + random.nextInt(3));
        check("chance", seed, 1 + about(29), most, about(1));
    }

    private void grounds() {
        int sheet = random.nextInt(4);
        int pairs = random.nextInt(5);
        int sort = random.nextInt(3);
        if (calls < CALLS - 20 && random.nextInt(3) > 0) {
            check("sheet", sheet, sort, 2 * pairs + random.nextInt(3));
            for (int i = 0; i < 2 * pairs; i++) check("cell", sheet, i, i % 2 == 0 ? about(23) : about(3));
        }
        if (random.nextInt(3) > 0) check("grounds", sheet, sort, random.nextInt(3), Math.max(0, pairs - random.nextInt(2)));
        else check("grounds", about(3), about(2), about(30), about(random.nextInt(21)));
    }

    /** A sheet that tells how the gang would go on, had its next yard some ground, now and then a little off. */
    private void slowed(int g) {
        int sheet = random.nextInt(4);
        if (calls < CALLS - 60 && random.nextInt(3) > 0 && (g == 0 || g == 1) && model.count(0) > 0) {
            int days = random.nextInt(13);
            int next = g == 0 ? model.told(0, 3) : 23 - model.told(1, 3);
            int was = check("ground", next, 0, random.nextInt(4));
            check("sheet", sheet, random.nextInt(3), days);
            for (int i = 0; i < days; i++) {
                int off = random.nextInt(60) == 0 ? 1 : 0;
                check("cell", sheet, i, model.done(g, i + 1) + off);
            }
            check("ground", next, 0, was);
        }
        check("slowed", g, random.nextInt(20) == 0 ? about(3) : sheet);
    }

    private String someText() {
        int sort = random.nextInt(4);
        if (sort == 0) return GOOD[random.nextInt(GOOD.length)];
        StringBuilder s = new StringBuilder();
        s.append("rate ").append(some(0)).append(";need ").append(some(0)).append(";worth ").append(some(0)).append(';');
        if (sort == 3) spoil(s);
        return s.toString();
    }

    private void write(String text) {
        int size = Math.min(161, text.length());
        if (calls + size + 3 > CALLS) {
            check("feed", about(255));
            return;
        }
        for (int i = 0; i < size; i++) check("feed", text.charAt(i));
        int number = check("text");
        if (number > 0) check("force", number);
    }

    private void spoil(StringBuilder s) {
        int n = 1 + random.nextInt(2);
        for (int i = 0; i < n; i++) {
            int at = random.nextInt(s.length() + 1);
            if (random.nextBoolean()) s.insert(at, SCRAPS[random.nextInt(SCRAPS.length)]);
            else if (at < s.length()) s.deleteCharAt(at);
        }
    }

    /** Some E, drawn loosely by the grammar, now and then too deep or not quite one. */
    private String some(int depth) {
        int r = random.nextInt(depth > 6 ? 8 : 20);
        if (r < 4) return Integer.toString(random.nextInt(random.nextBoolean() ? 60 : 10000));
        if (r < 8) return SCRAPS[14 + random.nextInt(6)];
        if (r < 10) return some(depth + 1) + "+" + some(depth + 1);
        if (r < 11) return some(depth + 1) + " - " + some(depth + 1);
        if (r < 13) return some(depth + 1) + "*" + some(depth + 1);
        if (r < 14) return "-" + some(depth + 1);
        if (r < 15) return "(" + some(depth + 1) + (random.nextBoolean() ? "<" : " =\n") + some(depth + 1) + ")";
        if (r < 16) return "(" + some(depth + 1) + " or " + some(depth + 1) + ")";
        if (r < 17) return "(" + some(depth + 1) + " and " + some(depth + 1) + ")";
        if (r < 18) return "( not " + some(depth + 1) + ")";
        return "(" + some(depth + 1) + ")";
    }

    private int check(String name, int... a) {
        calls++;
        String call = name + Arrays.toString(a);
        trail.append(call).append(' ');
        long got = Roads.call(real, name, a);
        long want = onModel(name, a);
        due.is(got == want ? call : trail.toString(), got, want);
        return (int) want;
    }

    private long onModel(String name, int[] a) {
        switch (name) {
            case "ground": return model.ground(a[0], a[1], a[2]);
            case "yard": return model.yard(a[0], a[1]);
            case "gang": return model.gang(a[0], a[1], a[2]);
            case "set": return model.set(a[0], a[1]);
            case "told": return model.told(a[0], a[1]);
            case "feed": return model.feed(a[0]);
            case "text": return model.text();
            case "force": return model.force(a[0]);
            case "day": return model.day();
            case "run": return model.run(a[0]);
            case "done": return model.done(a[0], a[1]);
            case "ease": return model.ease(a[0], a[1]);
            case "men": return model.men(a[0], a[1]);
            case "quarrel": return model.quarrel(a[0]);
            case "bore": return model.bore(a[0], a[1]);
            case "well": return model.well(a[0]);
            case "slowed": return model.slowed(a[0], a[1]);
            case "bet": return model.bet(a[0], a[1], a[2]);
            case "soonest": return model.soonest(a[0]);
            case "cheapest": return model.cheapest();
            case "drawn": return model.drawn(a[0]);
            case "chance": return model.chance(a[0], a[1], a[2], a[3]);
            case "image": return model.image();
            case "back": return model.back();
            case "count": return model.count(a[0]);
            case "sheet": return model.sheet(a[0], a[1], a[2]);
            case "cell": return model.cell(a[0], a[1], a[2]);
            case "copy": return model.copy(a[0], a[1], a[2], a[3], a[4]);
            case "grounds": return model.grounds(a[0], a[1], a[2], a[3]);
            case "taken": return model.taken(a[0], a[1]);
            default: throw new IllegalStateException(name);
        }
    }
}
