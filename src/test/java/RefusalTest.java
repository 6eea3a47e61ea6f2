import java.util.Arrays;

/**
 * Refused calls change nothing, and so do calls that only ask: of two objects with the same calls one has such a call
 * more, and both must tell the same of all that can be told. Where a call could be refused for several reasons, the
 * first that its words name is the answer.
 */
public final class RefusalTest {
    private static final int BAD = -2, STATE = -3, FULL = -4;
    private static final int MISSING = -11, OUTSIDE = -12, UNLIKE = -13, BELOW_ZERO = -14, NO_SUCH_RUN = -100000;
    private static final long NO = -4611686018427387904L;
    private static final int LEAST = Integer.MIN_VALUE, MOST = Integer.MAX_VALUE;
    private static final Due due = new Due("refusals");

    /** How an object comes to stand before the call. */
    private enum Scene { RICH, MET, FULL_TAPE, FULL_TEXTS, NO_TAPE_FULL_TEXTS }

    private RefusalTest() { }

    public static void main(String[] args) {
        ofTheRoad();
        ofGangs();
        ofDays();
        ofWhatIsBest();
        ofSheets();
        ofCopies();
        ofGrounds();
        ofFullAndEmpty();
        byAsking();
        due.end();
    }

    private static TillTheyMeet object(Scene scene) {
        TillTheyMeet x = new TillTheyMeet();
        switch (scene) {
            case RICH: enrich(x); break;
            case MET: meet(x); break;
            case FULL_TAPE: for (int i = 0; i < 160; i++) x.feed('a' + i % 20); break;
            default:
                for (int i = 1; i < 6; i++) Roads.write(x, "rate " + i + ";need 9;worth 7;");
                x.force(4);
                if (scene == Scene.FULL_TEXTS) for (int i = 0; i < 3; i++) x.feed('1');
        }
        return x;
    }

    /** Nothing is as at first: yards done at both ends, sheets of all sorts (3 is missing), an image, a tape. */
    private static void enrich(TillTheyMeet x) {
        Roads.write(x, "rate men;need 10+ground*3;worth yard;");
        x.force(1);
        x.gang(0, 5, 3);
        x.gang(1, 4, 7);
        int[] set = {12, 11, 60, 5, 2};
        for (int w = 0; w < 5; w++) x.set(w, set[w]);
        x.ground(7, 0, 2);
        x.ground(15, 0, 3);
        x.bore(9, 2);
        x.day();
        x.image();
        x.ground(9, 0, 1);
        x.bore(15, 2);
        x.set(1, 13);
        x.set(2, 61);
        x.day();
        for (int s = 0; s < 3; s++) Roads.fill(x, s, s, 10, 1 + s, 11, 3 - s, 12, s);
        for (char c : "rate 12345".toCharArray()) x.feed(c);
    }

    private static void meet(TillTheyMeet x) {
        Roads.write(x, "rate 12;need 1;worth 0;");
        x.force(1);
        x.gang(0, 1, 2);
        x.day();
        Roads.fill(x, 1, 0, 12, 12, 12);
    }

    /** All that an object tells, what its sheets, tape and image hold, too: 306 calls. */
    private static long[] probe(TillTheyMeet x) {
        long[] told = new long[306];
        int n = put(told, 0, Roads.allOf(x));
        for (int w = 0; w < 6; w++) told[n++] = x.run(w);
        for (int g = 0; g < 2; g++) {
            for (int s = 0; s < 4; s++) told[n++] = x.slowed(g, s);
            told[n++] = x.well(g);
            for (int k = 0; k < 6; k++) told[n++] = x.taken(g, k);
        }
        for (int s = 0; s < 4; s++) {
            // the sheet's sort, its items, its size
            for (int sort = 0; sort < 3; sort++) told[n++] = x.grounds(s, sort, 0, 3);
            for (int y = 10; y < 13; y++) told[n++] = x.yard(y, 0);
            for (int i = 5; i < 7; i++) told[n++] = x.cell(s, i, 1);
        }
        told[n++] = x.text();
        told[n++] = x.back();
        put(told, n, Roads.allOf(x));
        return told;
    }

    private static int put(long[] told, int n, int[] all) {
        for (int i = 0; i < all.length; i++) told[n + i] = all[i];
        return n + all.length;
    }

    private static void same(Scene scene, String call, TillTheyMeet after) {
        long[] want = probe(object(scene)), got = probe(after);
        for (int i = 0; i < want.length; i++) due.is(scene + ", behind " + call + ", told " + i, got[i], want[i]);
    }

    private static void refused(Scene scene, long want, String name, int... a) {
        String call = name + Arrays.toString(a);
        TillTheyMeet x = object(scene);
        due.is(scene + " " + call, Roads.call(x, name, a), want);
        same(scene, call, x);
    }

    private static void refused(long want, String name, int[]... all) {
        for (int[] a : all) refused(Scene.RICH, want, name, a);
    }

    private static int[] of(int... a) {
        return a;
    }

    // 2, 3, 16, 17
    private static void ofTheRoad() {
        refused(BAD, "ground", of(-1, 0, 1), of(24, 0, 1), of(5, -1, 1), of(5, 2, 1), of(5, 0, -1), of(5, 0, 4),
                of(5, 1, -1), of(5, 1, 2), of(LEAST, 0, 1), of(MOST, 1, 1), of(24, 2, 4));
        // gang 0 has done yards 0 .. 2, by 16 a day; gang 1 has done 23 and 22, by 11 and 13
        refused(STATE, "ground", of(0, 0, 1), of(2, 0, 1), of(22, 0, 1), of(23, 0, 0), of(0, 0, 0));
        refused(BAD, "ground", of(0, 0, 4), of(23, 0, -1), of(0, 2, 1));
        refused(BAD, "yard", of(-1, 0), of(24, 0), of(0, -1), of(0, 4), of(24, 4));
        refused(BAD, "bore", of(-1, 1), of(24, 1), of(3, 0), of(3, -1), of(0, 25), of(3, 22), of(23, 2), of(20, MOST),
                of(-1, 2), of(-1, 25), of(LEAST, 1));
        refused(BAD, "well", of(-1), of(2), of(MOST));
    }

    // 4, 5, 6, 31
    private static void ofGangs() {
        refused(BAD, "gang", of(-1, 1, 1), of(2, 1, 1), of(0, -1, 1), of(0, 6, 1), of(0, 1, -1), of(1, 1, 10), of(2, 6, 10));
        refused(BAD, "set", of(-1, 5), of(5, 5), of(0, 0), of(0, 31), of(1, 0), of(1, 31), of(2, -1), of(2, 1000),
                of(3, -1), of(3, 1000), of(4, -1), of(4, 100), of(5, -1));
        refused(BAD, "told", of(-1, 0), of(2, 0), of(0, -1), of(0, 9), of(2, 9));
        refused(BAD, "taken", of(0, -1), of(0, 6), of(2, 6), of(-1, -1));
        refused(MISSING, "taken", of(-1, 0), of(2, 5), of(MOST, 3));
        // a PROUD one is under STEADY, a LAZY one under SLY
        refused(UNLIKE, "taken", of(0, 2), of(0, 3), of(0, 4), of(1, 1), of(1, 3), of(1, 5));
    }

    // 7, 9, 11, 12, 26
    private static void ofDays() {
        refused(BAD, "feed", of(-1), of(256), of(LEAST), of(MOST));
        refused(BAD, "force", of(-1), of(2), of(5), of(6), of(MOST));
        refused(NO_SUCH_RUN, "run", of(-1), of(6));
        refused(BAD, "done", of(-1, 3), of(2, 3), of(0, -1), of(0, 301), of(2, 301));
        refused(BAD, "count", of(-1), of(8));
    }

    // 13, 14, 15, 19, 20, 23
    private static void ofWhatIsBest() {
        for (String name : new String[] {"ease", "men"}) {
            refused(NO_SUCH_RUN, name, of(-1, 0), of(2, 0), of(0, -1), of(1, 2), of(2, 2));
        }
        refused(BAD, "quarrel", of(-1), of(3));
        refused(BAD, "bet", of(-1, 0, 0), of(0, 25, 0), of(0, 0, -1), of(25, 25, 25));
        refused(BAD, "soonest", of(-1), of(2));
        refused(NO, "chance", of(1, 0, 9, 0), of(1, 31, 9, 0), of(1, 5, -1, 0), of(1, 5, 301, 1), of(1, 5, 9, -1),
                of(1, 5, 9, 2), of(1, 31, 301, 2));
        refused(BAD, "slowed", of(-1, 0), of(2, 0), of(0, -1), of(0, 4), of(2, 3), of(2, 4));
        refused(MISSING, "slowed", of(0, 3), of(1, 3));
    }

    // 27, 28
    private static void ofSheets() {
        refused(BAD, "sheet", of(-1, 0, 6), of(4, 0, 6), of(0, -2, 6), of(0, 3, 6), of(0, 0, 41), of(2, 1, MOST),
                of(4, 0, -1), of(0, 3, -1), of(0, 3, 41), of(4, -1, 0), of(3, 0, 41));
        refused(BELOW_ZERO, "sheet", of(0, 0, -1), of(3, 2, -1), of(1, 1, LEAST));
        refused(BAD, "cell", of(-1, 0, 1), of(4, 0, 1), of(4, -1, 1));
        refused(MISSING, "cell", of(3, 0, 1), of(3, -1, 1), of(3, 99, 1));
        refused(OUTSIDE, "cell", of(0, -1, 1), of(0, 6, 1), of(2, 40, 1), of(1, MOST, 1), of(1, LEAST, 1));
    }

    // 29: not even the numbers that had room come
    private static void ofCopies() {
        refused(BAD, "copy", of(-1, 0, 0, 0, 1), of(4, 0, 0, 0, 1), of(0, 0, -1, 0, 1), of(0, 0, 4, 0, 1), of(3, 0, 4, 0, 1),
                of(4, 9, 3, 9, -1));
        refused(MISSING, "copy", of(3, 0, 0, 0, 1), of(0, 0, 3, 0, 1), of(3, 0, 3, 0, 0), of(3, -1, 1, 0, -1));
        refused(UNLIKE, "copy", of(0, 0, 1, 0, 1), of(1, 0, 2, 0, 0), of(2, 0, 0, 0, -1), of(0, 7, 2, 0, 1));
        refused(OUTSIDE, "copy", of(0, 1, 0, 0, 6), of(0, 0, 0, 1, 6), of(1, 0, 1, 3, 4), of(1, 3, 1, 0, 4), of(2, 0, 2, 1, -1),
                of(2, -1, 2, 0, 3), of(2, 0, 2, -1, 3), of(2, 7, 2, 0, 0), of(2, 0, 2, 7, 0), of(2, 1, 2, 0, MOST),
                of(2, MOST, 2, 0, MOST), of(2, 0, 2, 1, LEAST));
    }

    // 30
    private static void ofGrounds() {
        refused(BAD, "grounds", of(-1, 0, 0, 1), of(4, 0, 0, 1), of(0, -1, 0, 1), of(0, 3, 0, 1), of(0, 0, 0, -1),
                of(0, 0, 0, 21), of(3, 3, 0, 0), of(0, 1, 0, 21), of(3, 0, 0, -1));
        refused(UNLIKE, "grounds", of(0, 1, 0, 1), of(0, 2, 0, 0), of(1, 0, -1, 1), of(2, 1, 0, 20));
        refused(MISSING, "grounds", of(3, 0, 0, 1), of(3, 1, 0, 0), of(3, 2, -1, 20));
        refused(OUTSIDE, "grounds", of(0, 0, -1, 1), of(0, 0, 5, 1), of(0, 0, 6, 1), of(1, 1, MOST, 2), of(1, 1, LEAST, 20));
    }

    // 2, 7, 8, 18, 25
    private static void ofFullAndEmpty() {
        refused(Scene.FULL_TAPE, FULL, "feed", 32);
        refused(Scene.FULL_TAPE, FULL, "feed", 0);
        refused(Scene.FULL_TAPE, BAD, "feed", 256);
        refused(Scene.FULL_TAPE, BAD, "feed", -1);
        refused(Scene.FULL_TAPE, STATE, "back");
        refused(Scene.FULL_TEXTS, FULL, "text");
        refused(Scene.NO_TAPE_FULL_TEXTS, FULL, "text");
        refused(Scene.FULL_TEXTS, BAD, "force", 6);
        refused(Scene.MET, STATE, "back");
        refused(Scene.MET, STATE, "slowed", 0, 1);
        refused(Scene.MET, STATE, "slowed", 1, 1);
        refused(Scene.MET, MISSING, "slowed", 0, 0);
        refused(Scene.MET, BAD, "slowed", 2, 1);
        refused(Scene.MET, BAD, "slowed", 0, 4);
        for (int y = 0; y < 24; y++) refused(Scene.MET, STATE, "ground", y, 0, y % 4);
        refused(Scene.MET, BAD, "ground", 0, 0, 4);
        refused(Scene.MET, BAD, "ground", 24, 0, 0);
    }

    private static void byAsking() {
        for (Scene scene : Scene.values()) {
            TillTheyMeet x = object(scene);
            for (int w = 0; w < 6; w++) x.run(w);
            for (int g = 0; g < 2; g++) {
                for (int n = 0; n <= 300; n += 150) x.done(g, n);
                for (int w = 0; w < 2; w++) x.ease(g, w);
                for (int w = 0; w < 2; w++) x.men(g, w);
                for (int s = 0; s < 4; s++) x.slowed(g, s);
                x.well(g);
            }
            for (int w = 0; w < 3; w++) x.quarrel(w);
            x.bet(0, 12, 24);
            x.soonest(0);
            x.soonest(1);
            x.cheapest();
            x.drawn(77);
            x.chance(-5, 30, 20, 1);
            same(scene, "asking", x);
        }
        TillTheyMeet x = object(Scene.RICH);
        due.is("copy of none", x.copy(0, 6, 0, 6, 0), 0);
        due.is("grounds of none", x.grounds(0, 0, 99, 0), 0);
        same(Scene.RICH, "copy and grounds of none", x);
    }
}
