/** What the tests do to an object: write texts, fill sheets, make calls by their names, tell all that can be seen. */
final class Roads {
    private Roads() { }

    static int write(TillTheyMeet x, String text) {
        for (int i = 0; i < text.length(); i++) x.feed(text.charAt(i));
        return x.text();
    }

    /** A new object whose rule is the text. */
    static TillTheyMeet by(String text) {
        TillTheyMeet x = new TillTheyMeet();
        if (write(x, text) != 1 || x.force(1) != 0) throw new IllegalStateException("not taken: " + text);
        return x;
    }

    static void fill(TillTheyMeet x, int sheet, int sort, int... items) {
        boolean filled = x.sheet(sheet, sort, items.length) == 1;
        for (int i = 0; i < items.length; i++) filled &= x.cell(sheet, i, items[i]) == 1;
        if (!filled) throw new IllegalStateException("sheet " + sheet + " not filled");
    }

    /** Yards, gangs and counts, in one number a place: 122 calls. */
    static int[] allOf(TillTheyMeet x) {
        int[] all = new int[24 * 4 + 18 + 8];
        int n = 0;
        for (int y = 0; y < 24; y++) for (int w = 0; w < 4; w++) all[n++] = x.yard(y, w);
        for (int g = 0; g < 2; g++) for (int w = 0; w < 9; w++) all[n++] = x.told(g, w);
        for (int w = 0; w < 8; w++) all[n++] = x.count(w);
        return all;
    }

    static void alike(Due due, String what, int[] a, int[] b) {
        for (int i = 0; i < a.length; i++) due.is(what + " at " + i, a[i], b[i]);
    }

    static long call(TillTheyMeet x, String name, int... a) {
        switch (name) {
            case "ground": return x.ground(a[0], a[1], a[2]);
            case "yard": return x.yard(a[0], a[1]);
            case "gang": return x.gang(a[0], a[1], a[2]);
            case "set": return x.set(a[0], a[1]);
            case "told": return x.told(a[0], a[1]);
            case "feed": return x.feed(a[0]);
            case "text": return x.text();
            case "force": return x.force(a[0]);
            case "day": return x.day();
            case "run": return x.run(a[0]);
            case "done": return x.done(a[0], a[1]);
            case "ease": return x.ease(a[0], a[1]);
            case "men": return x.men(a[0], a[1]);
            case "quarrel": return x.quarrel(a[0]);
            case "bore": return x.bore(a[0], a[1]);
            case "well": return x.well(a[0]);
            case "slowed": return x.slowed(a[0], a[1]);
            case "bet": return x.bet(a[0], a[1], a[2]);
            case "soonest": return x.soonest(a[0]);
            case "cheapest": return x.cheapest();
            case "drawn": return x.drawn(a[0]);
            case "chance": return x.chance(a[0], a[1], a[2], a[3]);
            case "image": return x.image();
            case "back": return x.back();
            case "count": return x.count(a[0]);
            case "sheet": return x.sheet(a[0], a[1], a[2]);
            case "cell": return x.cell(a[0], a[1], a[2]);
            case "copy": return x.copy(a[0], a[1], a[2], a[3], a[4]);
            case "grounds": return x.grounds(a[0], a[1], a[2], a[3]);
            case "taken": return x.taken(a[0], a[1]);
            default: throw new IllegalStateException(name);
        }
    }
}
