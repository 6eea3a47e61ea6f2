import java.util.Random;

/**
 * Texts drawn by fixed seeds: the class must find the same faults and values as Shunter, which reads a text without
 * calling itself: signs that wait lie on a pile, by how much they bind.
 */
public final class DrawnTextsTest {
    private static final int TEXTS = 12000;
    private static final String[] NAMES = {"ground", "men", "yard", "ahead", "day", "known"};
    private static final String[] SCRAPS = {"(", ")", ";", "+", "-", "*", "<", "=", " not ", " or ", " and ", " rate ",
        " need ", " worth ", " men ", " day ", "7", "00", "12345", " rat ", " no ", "A", "\n", "/", "\u00ff", "\u0000"};

    private final Due due;
    private final Random random;

    private DrawnTextsTest(Due due, long seed) {
        this.due = due;
        random = new Random(seed);
    }

    public static void main(String[] args) {
        Due due = new Due("drawn texts");
        int texts = args.length > 0 ? Integer.parseInt(args[0]) : TEXTS;
        int base = args.length > 1 ? Integer.parseInt(args[1]) : 0;
        int taken = 0;
        for (int i = base; i < base + texts; i++) if (new DrawnTextsTest(due, i).go()) taken++;
        due.is("some are taken, some are not: " + taken, texts < 100 || taken > texts / 4 && taken < texts * 3 / 4 ? 1 : 0, 1);
        due.end();
    }

    private boolean go() {
        StringBuilder s = new StringBuilder();
        for (String key : new String[] {"rate ", ";need ", ";worth "}) s.append(key).append(some(random.nextInt(4)));
        s.append(';');
        for (int n = random.nextInt(4) - 1; n > 0; n--) spoil(s);
        if (s.length() > 160) s.setLength(160);
        String text = s.toString();
        Shunter shunter = new Shunter(text);
        TillTheyMeet x = new TillTheyMeet();
        int answer = Roads.write(x, text);
        due.is("text " + text, answer, shunter.fault < 0 ? 1 : -100 - shunter.fault);
        if (answer == 1 && shunter.fault < 0) values(x, text, shunter);
        return answer == 1;
    }

    /** Each part is asked where its answer can be seen: rate as work, need of yards, worth of all together. */
    private void values(TillTheyMeet x, String text, Shunter shunter) {
        int men = 1 + random.nextInt(30), days = random.nextInt(4);
        int[] ground = new int[24], known = new int[24];
        for (int y = 0; y < 24; y++) {
            ground[y] = random.nextInt(4);
            known[y] = random.nextInt(2);
            x.ground(y, 0, ground[y]);
            x.ground(y, 1, known[y]);
        }
        // By one man each, the first rule is so slow that no yard is done in these days.
        x.set(0, 1);
        x.set(1, 1);
        for (int d = 0; d < days; d++) x.day();
        x.set(0, men);
        x.force(1);
        int worth = 0;
        for (int y = 0; y < 24; y++) {
            int[] meant = {ground[y], men, y, 24, days, known[y]};
            due.is("need of " + y + " by " + text, x.yard(y, 3), bound(shunter.value(1, meant), 1));
            worth += bound(shunter.value(2, meant), -999);
            if (y == 0) due.is("rate by " + text, x.told(0, 7), bound(shunter.value(0, meant), 0));
        }
        due.is("worth by " + text, x.run(5) + x.run(4), worth);
    }

    private static int bound(int v, int least) {
        return Math.max(least, Math.min(999, v));
    }

    private void spoil(StringBuilder s) {
        int at = random.nextInt(s.length() + 1);
        int how = random.nextInt(4);
        if (how < 2) s.insert(at, SCRAPS[random.nextInt(SCRAPS.length)]);
        else if (how == 2 && at < s.length()) s.deleteCharAt(at);
        else if (random.nextInt(4) == 0) s.setLength(at);
    }

    private String pick(String... all) {
        return all[random.nextInt(all.length)];
    }

    /** Some E, now and then not quite one. */
    private String some(int size) {
        if (size <= 0 || random.nextInt(9) == 0) {
            return random.nextInt(3) == 0 ? Integer.toString(random.nextInt(random.nextInt(4) == 0 ? 10000 : 40)) : pick(NAMES);
        }
        switch (random.nextInt(11)) {
            case 0: return some(size - 1) + pick(" or ", "or ") + some(size - 1);
            case 1: return some(size - 1) + " and " + some(size - 1);
            case 2: return "not " + some(size - 1);
            case 3: return "(" + some(size - 1) + pick("<", " = ") + some(size - 1) + ")";
            case 4: return "-" + some(size - 1);
            case 5: return some(size - 1) + pick("+", " -") + some(size - 1);
            case 6: return some(size - 1) + pick("*", "\n* ") + some(size - 1);
            case 7: return pick("(", "-(", "((", "--") + some(size - 1) + pick(")", ")", "))");
            case 8: return "(not " + some(size - 1) + ")";
            case 9: return some(size - 1) + pick("<", "=") + some(size - 1);
            default: return "(" + some(size - 1) + pick(" or ", " and ", "-", "+") + some(size - 1) + ")";
        }
    }
}
