import java.util.Arrays;

/**
 * Each number that a call takes, from the least to the most that is taken: all of these are, and the ones beside them
 * and far off are refused, as the document names it. A new object for every call.
 */
public final class RangeTest {
    private static final int BAD = -2, MISSING = -11, OUTSIDE = -12, BELOW_ZERO = -14, NO_SUCH_RUN = -100000;
    private static final long NO = -4611686018427387904L;
    private static final int ITEMS = 8;
    private static final Due due = new Due("ranges");

    private RangeTest() { }

    public static void main(String[] args) {
        roadAndGangs();
        textsAndDays();
        whatIsBest();
        pairsOfNumbers();
        sheets();
        spansOfSheets();
        due.end();
    }

    /** A new object with a second text, all four sheets (shorts, all 0), and some bytes on the tape. */
    private static TillTheyMeet object() {
        TillTheyMeet x = Roads.by("rate men;need 10;worth 0;");
        for (int s = 0; s < 4; s++) x.sheet(s, 1, ITEMS);
        x.feed(32);
        return x;
    }

    /** The number at a place of the call's numbers may be least .. most; below and above are what it answers else. */
    private static void range(long below, long above, int least, int most, String name, int place, int... numbers) {
        for (int v = least; v <= most; v++) {
            long got = answer(name, place, v, numbers);
            due.is(told(name, place, v, numbers) + " is taken (" + got + ")", got == below || got == above ? 1 : 0, 0);
        }
        for (int v : new int[] {least - 1, least - 2, least - 100, least - 256, least - 65536, Integer.MIN_VALUE}) {
            due.is(told(name, place, v, numbers), answer(name, place, v, numbers), below);
        }
        for (int v : new int[] {most + 1, most + 2, most + 100, most + 256, most + 65536, Integer.MAX_VALUE}) {
            due.is(told(name, place, v, numbers), answer(name, place, v, numbers), above);
        }
    }

    private static void bad(int least, int most, String name, int place, int... numbers) {
        range(BAD, BAD, least, most, name, place, numbers);
    }

    private static long answer(String name, int place, int v, int[] numbers) {
        return Roads.call(object(), name, with(place, v, numbers));
    }

    private static String told(String name, int place, int v, int[] numbers) {
        return name + Arrays.toString(with(place, v, numbers));
    }

    private static int[] with(int place, int v, int[] numbers) {
        int[] all = numbers.clone();
        all[place] = v;
        return all;
    }

    // 2 .. 6
    private static void roadAndGangs() {
        for (int what = 0; what < 2; what++) bad(0, 23, "ground", 0, 0, what, 1);
        bad(0, 1, "ground", 1, 5, 0, 1);
        bad(0, 3, "ground", 2, 5, 0, 0);
        bad(0, 1, "ground", 2, 5, 1, 0);
        for (int what = 0; what < 4; what++) bad(0, 23, "yard", 0, 0, what);
        bad(0, 3, "yard", 1, 23, 0);
        bad(0, 1, "gang", 0, 0, 5, 9);
        bad(0, 5, "gang", 1, 1, 0, 0);
        bad(0, 9, "gang", 2, 1, 5, 0);
        bad(0, 4, "set", 0, 0, 1);
        bad(1, 30, "set", 1, 0, 0);
        bad(1, 30, "set", 1, 1, 0);
        bad(0, 999, "set", 1, 2, 0);
        bad(0, 999, "set", 1, 3, 0);
        bad(0, 99, "set", 1, 4, 0);
        for (int what = 0; what < 9; what++) bad(0, 1, "told", 0, 0, what);
        bad(0, 8, "told", 1, 1, 0);
    }

    // 7, 9, 11, 12, 26
    private static void textsAndDays() {
        bad(0, 255, "feed", 0, 0);
        bad(0, 1, "force", 0, 0);
        range(NO_SUCH_RUN, NO_SUCH_RUN, 0, 5, "run", 0, 0);
        bad(0, 1, "done", 0, 0, 300);
        bad(0, 300, "done", 1, 1, 0);
        bad(0, 7, "count", 0, 0);
    }

    // 13 .. 20, 23
    private static void whatIsBest() {
        for (String name : new String[] {"ease", "men"}) {
            range(NO_SUCH_RUN, NO_SUCH_RUN, 0, 1, name, 0, 0, 1);
            range(NO_SUCH_RUN, NO_SUCH_RUN, 0, 1, name, 1, 1, 0);
        }
        bad(0, 2, "quarrel", 0, 0);
        bad(0, 1, "well", 0, 0);
        bad(0, 1, "slowed", 0, 0, 3);
        bad(0, 3, "slowed", 1, 1, 0);
        for (int place = 0; place < 3; place++) bad(0, 24, "bet", place, 12, 12, 12);
        bad(0, 1, "soonest", 0, 0);
        range(NO, NO, 1, 30, "chance", 1, 7, 0, 300, 1);
        range(NO, NO, 0, 300, "chance", 2, 7, 1, 0, 0);
        range(NO, NO, 0, 1, "chance", 3, 7, 30, 20, 0);
    }

    // 16: where the yards must not go beyond the last one
    private static void pairsOfNumbers() {
        bad(0, 23, "bore", 0, 0, 1);
        bad(1, 24, "bore", 1, 0, 0);
        for (int k = 1; k < 24; k++) bad(1, 24 - k, "bore", 1, k, 0);
        for (int n = 2; n <= 24; n++) bad(0, 24 - n, "bore", 0, 0, n);
    }

    // 27, 28, 30, 31
    private static void sheets() {
        bad(0, 3, "sheet", 0, 0, 2, 40);
        bad(-1, 2, "sheet", 1, 3, 0, 40);
        for (int sort = 0; sort < 3; sort++) range(BELOW_ZERO, BAD, 0, 40, "sheet", 2, 0, sort, 0);
        bad(0, 3, "cell", 0, 0, 7, 1);
        range(OUTSIDE, OUTSIDE, 0, ITEMS - 1, "cell", 1, 3, 0, 1);
        bad(0, 3, "grounds", 0, 0, 1, 0, 4);
        bad(0, 2, "grounds", 1, 3, 0, 0, 0);
        // nothing stands ahead of the eight
        range(OUTSIDE, OUTSIDE, 0, ITEMS - 2, "grounds", 2, 0, 1, 0, 1);
        range(OUTSIDE, OUTSIDE, 0, 0, "grounds", 2, 0, 1, 0, 4);
        range(MISSING, MISSING, 0, 1, "taken", 0, 0, 0);
        // both are of kind 0
        bad(0, 5, "taken", 1, 1, 0);
        // n is looked at first: none, all four, and then they go beyond the eight
        for (int n = 0; n <= 20; n++) due.is("grounds of " + n, object().grounds(0, 1, 0, n), n <= 4 ? n : OUTSIDE);
        for (int n : new int[] {-1, 21, 22, 277, 65556, Integer.MIN_VALUE, Integer.MAX_VALUE}) {
            due.is("grounds of " + n, object().grounds(0, 1, 0, n), BAD);
        }
    }

    // 29
    private static void spansOfSheets() {
        bad(0, 3, "copy", 0, 0, 0, 1, 0, 8);
        bad(0, 3, "copy", 2, 1, 0, 0, 0, 8);
        for (int n = 0; n <= ITEMS; n++) {
            range(OUTSIDE, OUTSIDE, 0, ITEMS - n, "copy", 1, 0, 0, 1, 0, n);
            range(OUTSIDE, OUTSIDE, 0, ITEMS - n, "copy", 3, 0, 0, 1, 0, n);
            range(OUTSIDE, OUTSIDE, 0, ITEMS - n, "copy", 4, 0, n, 1, 0, 0);
            range(OUTSIDE, OUTSIDE, 0, ITEMS - n, "copy", 4, 0, 0, 1, n, 0);
        }
    }
}
