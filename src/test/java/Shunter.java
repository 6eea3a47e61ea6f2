import java.util.ArrayList;
import java.util.List;

/**
 * A text's fault and values, found without a call that calls itself: what waits for its other side lies on a pile
 * and is taken from it by what binds no more. Each part becomes a row of words, numbers and signs, sides first.
 */
final class Shunter {
    private static final List<String> NAMES = List.of("ground", "men", "yard", "ahead", "day", "known");
    private static final List<String> KEYS = List.of("rate", "need", "worth");
    private static final String NEG = "neg", NOT = "not", OPEN = "(";

    int fault = -1;
    private final String text;
    private final List<List<String>> parts = new ArrayList<>();
    private final List<String> pile = new ArrayList<>();
    private List<String> row = new ArrayList<>();
    // What can stand: a key, all that begins a NOT, all that begins a ONE, what comes behind a ONE.
    private enum Wants { KEY, ANY, ONE, JOIN }
    private Wants wants = Wants.KEY;

    Shunter(String text) {
        this.text = text;
        int at = 0;
        while (fault < 0) {
            while (at < text.length() && (text.charAt(at) == ' ' || text.charAt(at) == '\n')) at++;
            if (at == text.length()) {
                if (parts.size() < 3 || wants != Wants.KEY) fault = at;
                break;
            }
            int end = at + 1;
            for (String sort : new String[] {"[a-z]", "[0-9]"}) {
                if (!one(at).matches(sort)) continue;
                while (end < text.length() && one(end).matches(sort)) end++;
            }
            if (!stands(text.substring(at, end))) fault = at;
            at = end;
        }
    }

    private String one(int at) {
        return text.substring(at, at + 1);
    }

    private boolean stands(String token) {
        switch (wants) {
            case KEY:
                if (parts.size() == 3 || !token.equals(KEYS.get(parts.size()))) return false;
                wants = Wants.ANY;
                return true;
            case JOIN: return joins(token);
            default: return begins(token);
        }
    }

    private boolean begins(String token) {
        if (token.matches("[0-9]{1,4}") || NAMES.contains(token)) {
            row.add(token);
            endOne();
            return true;
        }
        boolean opens = token.equals("-") || token.equals(OPEN) || token.equals(NOT) && wants == Wants.ANY;
        if (!opens || pile.stream().filter(p -> p.equals(NEG) || p.equals(NOT) || p.equals(OPEN)).count() == 5) return false;
        pile.add(token.equals("-") ? NEG : token);
        wants = token.equals("-") ? Wants.ONE : Wants.ANY;
        return true;
    }

    /** A ONE ends here, and with it all the - ahead of it. */
    private void endOne() {
        takeFrom(6);
        wants = Wants.JOIN;
    }

    private boolean joins(String token) {
        boolean inside = pile.contains(OPEN);
        switch (token) {
            case ";":
                if (inside) return false;
                takeFrom(0);
                parts.add(row);
                row = new ArrayList<>();
                wants = Wants.KEY;
                return true;
            case ")":
                if (!inside) return false;
                takeFrom(0);
                pile.remove(pile.size() - 1);
                endOne();
                return true;
            case "or": case "and": case "<": case "=": case "+": case "-": case "*":
                takeFrom(binds(token) == 3 ? 4 : binds(token));
                if (binds(token) == 3 && !pile.isEmpty() && binds(pile.get(pile.size() - 1)) == 3) return false;
                pile.add(token);
                wants = binds(token) < 2 ? Wants.ANY : Wants.ONE;
                return true;
            default: return false;
        }
    }

    private static int binds(String sign) {
        switch (sign) {
            case "or": return 0;
            case "and": return 1;
            case NOT: return 2;
            case "<": case "=": return 3;
            case "+": case "-": return 4;
            case "*": return 5;
            case NEG: return 6;
            default: return -1;
        }
    }

    /** What lies on top and binds so much, or more, comes to the row. */
    private void takeFrom(int least) {
        while (!pile.isEmpty() && binds(pile.get(pile.size() - 1)) >= least) row.add(pile.remove(pile.size() - 1));
    }

    int value(int part, int[] meant) {
        int[] v = new int[200];
        int n = 0;
        for (String s : parts.get(part)) {
            if (s.matches("[0-9]+")) v[n++] = Integer.parseInt(s);
            else if (NAMES.contains(s)) v[n++] = meant[NAMES.indexOf(s)];
            else if (s.equals(NEG)) v[n - 1] = 0 - v[n - 1];
            else if (s.equals(NOT)) v[n - 1] = v[n - 1] == 0 ? 1 : 0;
            else v[n - 2] = joined(s, v[n - 2], v[--n]);
        }
        return v[0];
    }

    private static int joined(String sign, long a, long b) {
        switch (sign) {
            case "or": return a == 0 && b == 0 ? 0 : 1;
            case "and": return a == 0 || b == 0 ? 0 : 1;
            case "<": return a < b ? 1 : 0;
            case "=": return a == b ? 1 : 0;
            case "+": return (int) (a + b);
            case "-": return (int) (a - b);
            default: return (int) (a * b);
        }
    }
}
