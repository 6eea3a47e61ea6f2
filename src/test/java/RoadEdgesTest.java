/** The road and the gangs at their bounds: the document's "Terms" 1 ahead of the texts, promises 1 to 6. */
public final class RoadEdgesTest {
    private static final int BAD = -2, STATE = -3, NONE = -1;
    private static final int GANG = 0, STEADY = 1, SLY = 2, NIGHT = 3, LAZY = 4, PROUD = 5;
    private static final Due due = new Due("edges of the road");

    private RoadEdgesTest() { }

    public static void main(String[] args) {
        firstAndLastYard();
        oneGangDoesAll();
        doneAndNextYard();
        knownIsOfAnyYard();
        leastAndMostMen();
        leastAndMostPay();
        half();
        slyOnEveryNumber();
        nightOnEveryNumber();
        lazyIsNotBelowNone();
        proudOnRockAlone();
        costsAreNotBelowNone();
        noneIsLeft();
        needOfAnyYard();
        due.end();
    }

    private static void is(String what, long got, long want) {
        due.is(what, got, want);
    }

    // YARDS 0 .. 23; GANG 0 from YARD 0 on upward, 1 from YARD 23 on downward
    private static void firstAndLastYard() {
        TillTheyMeet x = Roads.by("rate 1;need 1+(2<day);worth 0;");
        is("nobody's at first", x.yard(0, 2), NONE);
        is("nobody's at first", x.yard(23, 2), NONE);
        for (int d = 1; d <= 3; d++) {
            x.day();
            for (int y = 0; y < 24; y++) is("whose is " + y + " on day " + d, x.yard(y, 2), y < d ? 0 : y > 23 - d ? 1 : NONE);
        }
    }

    private static void oneGangDoesAll() {
        TillTheyMeet up = Roads.by("rate 24*(yard=0);need 1;worth 0;");
        is("all by gang 0", up.day(), 0);
        is("all by gang 0", up.told(0, 3), 24);
        TillTheyMeet down = Roads.by("rate 24*(yard=23);need 1;worth 0;");
        is("all by gang 1", down.day(), 0);
        is("all by gang 1", down.told(1, 3), 24);
        for (int y = 0; y < 24; y++) {
            is("all by gang 0", up.yard(y, 2), 0);
            is("all by gang 1", down.yard(y, 2), 1);
            is("known by being done", up.yard(y, 1), 1);
            is("known by being done", down.yard(y, 1), 1);
        }
    }

    // STATE: GROUND of one that is done
    private static void doneAndNextYard() {
        TillTheyMeet x = Roads.by("rate 5*(yard=0)+17*(yard=23);need 1;worth 0;");
        x.day();
        for (int y = 0; y < 24; y++) {
            boolean done = y < 5 || y > 6;
            is("ground of " + y, x.ground(y, 0, 3), done ? STATE : 0);
            is("ground of " + y, x.yard(y, 0), done ? 0 : 3);
        }
    }

    private static void knownIsOfAnyYard() {
        TillTheyMeet x = Roads.by("rate 1;need 1;worth 0;");
        x.day();
        for (int y = 0; y < 24; y++) {
            int was = y == 0 || y == 23 ? 1 : 0;
            is("known " + y, x.ground(y, 1, 1 - was), was);
            is("known " + y, x.ground(y, 1, 1 - was), 1 - was);
            is("known " + y, x.yard(y, 1), 1 - was);
        }
    }

    private static void leastAndMostMen() {
        TillTheyMeet x = new TillTheyMeet();
        x.set(0, 1);
        x.set(1, 30);
        is("1 man", x.told(0, 7), 4);
        is("30 men", x.told(1, 7), 120);
        x.set(4, 99);
        x.day();
        is("1 man, the most wage", x.told(0, 6), 99);
        is("30 men, the most wage", x.told(1, 6), 2970);
        x.set(4, 0);
        x.day();
        is("no wage", x.told(0, 6), 99);
        is("no wage", x.told(1, 6), 2970);
    }

    private static void leastAndMostPay() {
        TillTheyMeet x = Roads.by("rate 2;need 1;worth 0;");
        x.set(2, 999);
        x.day();
        is("the most for a yard", x.told(0, 5), 1998);
        x.set(2, 0);
        x.set(3, 999);
        x.day();
        is("none for a yard, the most for a day", x.told(0, 5), 1998 + 999);
        x.set(3, 0);
        x.day();
        is("none", x.told(0, 5), 1998 + 999);
        is("none", x.told(1, 5), 1998 + 999);
    }

    /** What gang 1 of a kind does on a ground, day by day, told ahead of each. */
    private static void does(int kind, int number, int ground, int rate, int... want) {
        TillTheyMeet x = Roads.by("rate " + rate + ";need 999;worth 0;");
        x.gang(1, kind, number);
        x.ground(23, 0, ground);
        String who = "kind " + kind + ", number " + number + ", rate " + rate + " on ground " + ground;
        int work = 0;
        for (int d = 0; d < want.length; d++) {
            is(who + " does in day " + d, x.told(1, 7), want[d]);
            x.day();
            work += want[d];
            if (work < 999) is(who + " has behind day " + d, x.told(1, 4), work);
        }
    }

    // half (cut)
    private static void half() {
        int[][] halves = {{0, 10}, {1, 10}, {2, 11}, {3, 11}, {998, 509}, {999, 509}};
        for (int[] h : halves) {
            does(STEADY, 9, 3, h[0], h[1]);
            does(NIGHT, 0, 0, h[0], 2 * h[1], h[1]);
            does(PROUD, 1, 3, h[0], h[1] + 1);
            does(GANG, 9, 3, h[0], h[0]);
        }
    }

    // none on GROUND (NUMBER modulo 4) in odd DAYS
    private static void slyOnEveryNumber() {
        for (int number = 0; number <= 9; number++) {
            for (int ground = 0; ground <= 3; ground++) {
                int odd = ground == number % 4 ? 0 : 40;
                does(SLY, number, ground, 40, 40, odd, 40, odd);
                does(LAZY, number, ground, 40, 40 - 3 * ground, Math.max(0, odd - 3 * ground), 40 - 3 * ground);
            }
        }
    }

    // twice in DAYS that are 0 modulo (NUMBER and 2)
    private static void nightOnEveryNumber() {
        int[] every = {2, 3, 4, 5, 6, 7, 8, 9, 10, 11};
        for (int number = 0; number <= 9; number++) {
            int[] want = new int[24];
            for (int d = 0; d < 24; d++) want[d] = 15;
            for (int d = 0; d < 24; d += every[number]) want[d] = 30;
            does(NIGHT, number, 2, 10, want);
        }
    }

    // Both 0 at least, in the end
    private static void lazyIsNotBelowNone() {
        does(LAZY, 0, 3, 10, 1, 1);
        does(LAZY, 0, 3, 9, 0, 0);
        does(LAZY, 0, 3, 8, 0, 0);
        does(LAZY, 0, 3, 0, 0, 0);
        does(LAZY, 0, 1, 3, 0);
        does(LAZY, 0, 1, 4, 1);
        does(LAZY, 1, 0, 0, 0, 0);
    }

    private static void proudOnRockAlone() {
        for (int ground = 0; ground <= 2; ground++) does(PROUD, 9, ground, 6, 13);
        does(PROUD, 9, 3, 6, 22);
        does(PROUD, 0, 3, 6, 13);
    }

    private static void costsAreNotBelowNone() {
        for (int number = 0; number <= 9; number++) {
            int[] want = {0, number, 0, 2 * number + 5, 1, 0};
            for (int kind = 0; kind <= 5; kind++) {
                TillTheyMeet x = new TillTheyMeet();
                x.set(4, 0);
                x.gang(0, kind, number);
                is("costs of kind " + kind + ", number " + number, x.told(0, 8), want[kind]);
                x.day();
                is("spent by kind " + kind + ", number " + number, x.told(0, 6), want[kind]);
            }
        }
    }

    // 0: none is left
    private static void noneIsLeft() {
        TillTheyMeet x = Roads.by("rate 999;need 1;worth 0;");
        x.day();
        int[] costs = {0, 9, 0, 23, 1, 0};
        for (int kind = 0; kind <= 5; kind++) {
            for (int g = 0; g < 2; g++) {
                x.gang(g, kind, 9);
                is("kind " + kind + " does none", x.told(g, 7), 0);
                is("costs of kind " + kind + " are told all the same", x.told(g, 8), costs[kind]);
            }
        }
        TillTheyMeet one = Roads.by("rate 23*(yard=0)+7*(day=1);need 1;worth 0;");
        one.day();
        is("one is left", one.count(0), 1);
        is("one is left for gang 0", one.told(0, 7), 7);
        is("one is left for gang 1", one.told(1, 7), 7);
    }

    private static void needOfAnyYard() {
        TillTheyMeet x = Roads.by("rate 999;need 5+yard*30+known*100+ahead;worth 0;");
        is("need of the first", x.yard(0, 3), 29);
        is("need of the last", x.yard(23, 3), 719);
        Roads.write(x, "rate 999;need 1;worth 0;");
        x.force(2);
        x.day();
        x.force(1);
        is("need of the first, all are done", x.yard(0, 3), 105);
        is("need of the last, all are done", x.yard(23, 3), 795);
        is("BAD beyond", x.yard(24, 3), BAD);
    }
}
