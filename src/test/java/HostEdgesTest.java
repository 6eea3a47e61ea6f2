/** Sheets at their bounds, and gangs taken for others: the document's "Terms" 3, promises 27 to 31. */
public final class HostEdgesTest {
    private static final int MISSING = -11, OUTSIDE = -12, UNLIKE = -13;
    private static final Due due = new Due("edges of the host");

    private HostEdgesTest() { }

    public static void main(String[] args) {
        missingAtFirst();
        emptyAndFullSheets();
        allNoneAgain();
        bytes();
        shorts();
        ints();
        copiesOfNoneAndAll();
        copiesUponThemselves();
        copiesAsTheyWere();
        groundsOfNoneAndTwenty();
        groundsBeyondTheEnd();
        groundsThatAreLeftOut();
        takenUnderAnother();
        due.end();
    }

    private static void is(String what, long got, long want) {
        due.is(what, got, want);
    }

    // SHEETS 0 .. 3 are missing at first
    private static void missingAtFirst() {
        for (int s = 0; s < 4; s++) {
            TillTheyMeet x = new TillTheyMeet();
            x.sheet((s + 1) % 4, 0, 4);
            is("cell of a missing one", x.cell(s, 0, 1), MISSING);
            is("copy of a missing one", x.copy(s, 0, (s + 1) % 4, 0, 0), MISSING);
            is("copy to a missing one", x.copy((s + 1) % 4, 0, s, 0, 0), MISSING);
            is("copy of a missing one to itself", x.copy(s, 0, s, 0, 0), MISSING);
            for (int sort = 0; sort < 3; sort++) is("grounds of a missing one, n 0", x.grounds(s, sort, 0, 0), MISSING);
            is("slowed by a missing one", x.slowed(0, s), MISSING);
            is("made", x.sheet(s, 2, 1), 1);
            is("cell", x.cell(s, 0, 1), 1);
            is("missing again", x.sheet(s, -1, 0), 1);
            is("cell of a missing one", x.cell(s, 0, 1), MISSING);
            is("missing once more", x.sheet(s, -1, 0), 1);
        }
    }

    private static void emptyAndFullSheets() {
        for (int sort = 0; sort < 3; sort++) {
            TillTheyMeet x = new TillTheyMeet();
            for (int n = 0; n <= 40; n++) {
                is("a sheet of " + n, x.sheet(2, sort, n), 1);
                is("its last item", x.cell(2, n - 1, 1), n == 0 ? OUTSIDE : 1);
                is("none behind its last item", x.cell(2, n, 1), OUTSIDE);
            }
            is("n does not matter", x.sheet(2, -1, 41), 1);
            is("n does not matter", x.sheet(2, -1, -1), 1);
            is("n does not matter", x.sheet(2, -1, Integer.MIN_VALUE), 1);
            is("missing", x.cell(2, 0, 1), MISSING);
        }
    }

    // a row of n of a sort, all 0
    private static void allNoneAgain() {
        TillTheyMeet x = Roads.by("rate 0;need 9;worth 0;");
        int[] ones = new int[40];
        for (int i = 0; i < 40; i++) ones[i] = 1;
        for (int sort = 0; sort < 3; sort++) {
            Roads.fill(x, 0, sort, ones);
            is("done by none", x.slowed(0, 0), 0);
            x.sheet(0, (sort + 1) % 3, 40);
            is("all 0, by none", x.slowed(0, 0), 15);
        }
    }

    /** A yard's number, given as v into a sheet of the sort, is just that number if it is the want (else none is laid). */
    private static void kept(int sort, int v, int want) {
        TillTheyMeet x = new TillTheyMeet();
        Roads.fill(x, 1, sort, v, 3);
        boolean isYard = want >= 0 && want <= 23;
        is(v + " in sort " + sort, x.grounds(1, sort, 0, 1), isYard ? 1 : 0);
        for (int y = 0; y < 24; y++) is(v + " in sort " + sort + ", yard " + y, x.yard(y, 0), isYard && y == want ? 3 : 0);
    }

    // its lowest 8 bits
    private static void bytes() {
        int[][] kept = {{23, 23}, {127, 127}, {128, -128}, {255, -1}, {256, 0}, {261, 5}, {-251, 5}, {-256, 0}, {-1, -1},
            {65536 + 7, 7}, {Integer.MIN_VALUE, 0}, {Integer.MIN_VALUE + 9, 9}, {Integer.MAX_VALUE, -1}, {0x10f, 15}, {0x1ff17, 23}};
        for (int[] k : kept) kept(0, k[0], k[1]);
        laid(0, 128, 255, 0x103, 0xff02);
    }

    // its lowest 16 bits
    private static void shorts() {
        int[][] kept = {{23, 23}, {127, 127}, {128, 128}, {256, 256}, {261, 261}, {32767, 32767}, {32768, -32768}, {65535, -1},
            {65536, 0}, {65541, 5}, {-65531, 5}, {Integer.MIN_VALUE, 0}, {Integer.MAX_VALUE, -1}};
        for (int[] k : kept) kept(1, k[0], k[1]);
        laid(1, 32768, 65535, 0x10003, 0xff0002);
    }

    private static void ints() {
        int[][] kept = {{0, 0}, {23, 23}, {24, 24}, {256, 256}, {65536, 65536}, {65541, 65541}, {-1, -1},
            {Integer.MIN_VALUE, Integer.MIN_VALUE}, {Integer.MAX_VALUE, Integer.MAX_VALUE}};
        for (int[] k : kept) kept(2, k[0], k[1]);
    }

    /** Of four grounds the first two are none, by their sign; the others are 3 and 2, by their lowest bits. */
    private static void laid(int sort, int low, int minus, int three, int two) {
        TillTheyMeet x = new TillTheyMeet();
        Roads.fill(x, 0, sort, 4, low, 5, minus, 6, three, 7, two);
        is("two of four are left out", x.grounds(0, sort, 0, 4), 2);
        int[] want = {0, 0, 3, 2};
        for (int i = 0; i < 4; i++) is("ground by bits", x.yard(4 + i, 0), want[i]);
    }

    private static void copiesOfNoneAndAll() {
        for (int sort = 0; sort < 3; sort++) {
            TillTheyMeet x = new TillTheyMeet();
            int[] items = new int[40];
            for (int i = 0; i < 20; i++) {
                items[2 * i] = i;
                items[2 * i + 1] = 1 + i % 3;
            }
            Roads.fill(x, 0, sort, items);
            x.sheet(3, sort, 40);
            is("none at the end", x.copy(0, 40, 3, 40, 0), 0);
            is("none behind the end", x.copy(0, 41, 3, 0, 0), OUTSIDE);
            is("none behind the other one's end", x.copy(0, 0, 3, 41, 0), OUTSIDE);
            is("one at the end", x.copy(0, 40, 3, 0, 1), OUTSIDE);
            is("all, and one", x.copy(0, 0, 3, 0, 41), OUTSIDE);
            is("nothing came", x.grounds(3, sort, 0, 20), 20);
            is("nothing came", x.yard(0, 0), 0);
            is("all", x.copy(0, 0, 3, 0, 40), 40);
            is("all came", x.grounds(3, sort, 0, 20), 20);
            for (int y = 0; y < 24; y++) is("all came to " + y, x.yard(y, 0), y < 20 ? 1 + y % 3 : 0);
            x.sheet(1, sort, 0);
            is("none of an empty one", x.copy(1, 0, 3, 7, 0), 0);
            is("none to an empty one", x.copy(3, 7, 1, 0, 0), 0);
            is("one of an empty one", x.copy(1, 0, 3, 7, 1), OUTSIDE);
            is("one to an empty one", x.copy(3, 7, 1, 0, 1), OUTSIDE);
            is("below none", x.copy(3, 7, 1, 0, -1), OUTSIDE);
            x.sheet(1, (sort + 1) % 3, 0);
            is("none of another sort", x.copy(3, 7, 1, 0, 0), UNLIKE);
            is("below none of another sort", x.copy(3, 7, 1, 0, -1), UNLIKE);
        }
    }

    // n numbers (as they were), also where they lie upon one another
    private static void copiesUponThemselves() {
        int[] up = {9, 1, 9, 1, 10, 2, 11, 3};
        int[] down = {10, 2, 11, 3, 12, 1, 12, 1};
        int[][] ways = {up, down};
        for (int way = 0; way < 2; way++) {
            TillTheyMeet x = new TillTheyMeet();
            Roads.fill(x, 2, 1, 9, 1, 10, 2, 11, 3, 12, 1);
            is("upon itself", way == 0 ? x.copy(2, 0, 2, 2, 6) : x.copy(2, 2, 2, 0, 6), 6);
            int[] want = ways[way];
            for (int p = 0; p < 4; p++) {
                is("a pair", x.grounds(2, 1, 2 * p, 1), 1);
                is("pair " + p + " of way " + way, x.yard(want[2 * p], 0), want[2 * p + 1]);
            }
            int laid = 0;
            for (int y = 0; y < 24; y++) if (x.yard(y, 0) != 0) laid++;
            is("laid in way " + way, laid, 3);
        }
        TillTheyMeet y = new TillTheyMeet();
        Roads.fill(y, 0, 0, 5, 2);
        is("upon its own place", y.copy(0, 0, 0, 0, 2), 2);
        y.grounds(0, 0, 0, 1);
        is("upon its own place", y.yard(5, 0), 2);
    }

    private static void copiesAsTheyWere() {
        TillTheyMeet x = new TillTheyMeet();
        Roads.fill(x, 0, 2, 65541, 3, 5, 65539, 6, 2);
        x.sheet(1, 2, 6);
        is("ints", x.copy(0, 0, 1, 0, 6), 6);
        is("only one is a yard, and a ground", x.grounds(1, 2, 0, 3), 1);
        is("5 is left out", x.yard(5, 0), 0);
        is("6", x.yard(6, 0), 2);
        is("what was copied stays", x.grounds(0, 2, 4, 1), 1);
    }

    // n of them (0 .. 20)
    private static void groundsOfNoneAndTwenty() {
        for (int sort = 0; sort < 3; sort++) {
            TillTheyMeet x = new TillTheyMeet();
            x.sheet(0, sort, 0);
            is("none of an empty one", x.grounds(0, sort, 0, 0), 0);
            is("none, from anywhere", x.grounds(0, sort, -1, 0), 0);
            is("none, from anywhere", x.grounds(0, sort, Integer.MAX_VALUE, 0), 0);
            is("one of an empty one", x.grounds(0, sort, 0, 1), OUTSIDE);
            is("none of another sort", x.grounds(0, (sort + 1) % 3, 0, 0), UNLIKE);
            int[] items = new int[40];
            for (int i = 0; i < 20; i++) {
                items[2 * i] = 23 - i;
                items[2 * i + 1] = 1 + i % 3;
            }
            Roads.fill(x, 0, sort, items);
            is("twenty", x.grounds(0, sort, 0, 20), 20);
            for (int y = 0; y < 24; y++) is("yard " + y, x.yard(y, 0), y < 4 ? 0 : 1 + (23 - y) % 3);
        }
    }

    // -12: what stood ahead became so
    private static void groundsBeyondTheEnd() {
        for (int from = 0; from <= 7; from++) {
            TillTheyMeet x = new TillTheyMeet();
            Roads.fill(x, 0, 0, 1, 3, 2, 3, 3, 3, 2);
            int room = (7 - from) / 2;
            for (int n = 0; n <= 4; n++) {
                // from an odd place on, all pairs are yard 3 and a ground, the last one 3 and 2
                is("from " + from + ", " + n, x.grounds(0, 0, from, n), n <= room ? n : OUTSIDE);
            }
        }
        TillTheyMeet x = new TillTheyMeet();
        Roads.fill(x, 0, 0, 1, 3, 2, 3, 3, 3, 2);
        is("a pair's ground is outside", x.grounds(0, 0, 0, 20), OUTSIDE);
        for (int y = 1; y <= 3; y++) is("what stood ahead", x.yard(y, 0), 3);
        TillTheyMeet z = new TillTheyMeet();
        Roads.fill(z, 0, 0, 1, 3, 2, 3);
        is("the second pair is outside", z.grounds(0, 0, 2, 2), OUTSIDE);
        is("what stood ahead", z.yard(2, 0), 3);
        is("and no more", z.yard(1, 0), 0);
        is("ahead of the first", z.grounds(0, 0, -2, 2), OUTSIDE);
        is("ahead of the first, nothing became so", z.yard(1, 0), 0);
        is("the last one alone", z.grounds(0, 0, 3, 1), OUTSIDE);
    }

    // as of ground(); others are left out
    private static void groundsThatAreLeftOut() {
        TillTheyMeet x = Roads.by("rate 1;need 1;worth 0;");
        x.day();
        x.ground(8, 0, 2);
        Roads.fill(x, 0, 2, 0, 1, 23, 1, -1, 1, 24, 1, 5, -1, 5, 4, 1, 3, 22, 0, 8, 2, 6, 1, 6, 2);
        is("five of eleven", x.grounds(0, 2, 0, 11), 5);
        is("done", x.yard(0, 0), 0);
        is("done", x.yard(23, 0), 0);
        is("no such ground", x.yard(5, 0), 0);
        is("next", x.yard(1, 0), 3);
        is("next, as it was", x.yard(22, 0), 0);
        is("as it was", x.yard(8, 0), 2);
        is("the later one", x.yard(6, 0), 2);
        is("not known by that", x.yard(1, 1), 0);
    }

    // or one under that one (also by others between)
    private static void takenUnderAnother() {
        // by kind, the kinds that it is taken for
        int[][] chains = {{0}, {1, 0}, {2, 0}, {3, 1, 0}, {4, 2, 0}, {5, 1, 0}};
        TillTheyMeet x = new TillTheyMeet();
        for (int number = 0; number <= 9; number += 9) {
            for (int kind = 0; kind <= 5; kind++) {
                for (int g = 0; g < 2; g++) x.gang(g, kind, number);
                for (int k = 0; k <= 5; k++) {
                    boolean under = false;
                    for (int c : chains[kind]) under |= c == k;
                    for (int g = 0; g < 2; g++) is("kind " + kind + " taken for " + k, x.taken(g, k), under ? number : UNLIKE);
                }
            }
        }
    }
}
