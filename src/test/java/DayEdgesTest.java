/** Days, RUNs and what would be best at their bounds: the document's "Terms" 2, promises 10 to 26. */
public final class DayEdgesTest {
    private static final int STATE = -3, NONE = -1, MISSING = -11;
    private static final String STILL = "rate 0;need 999;worth 0;";
    private static final String A_YARD_A_DAY = "rate 1;need 1;worth 0;";
    private static final String ALL_AT_ONCE = "rate 24*(yard=0);need 1;worth 0;";
    private static final String ALL_DOWNWARD = "rate 24*(yard=23);need 1;worth 0;";
    // Gang 0 does all but yard 23 in day 0; from then on both do 1 a day, gang 0 first.
    private static final String ONE_LEFT = "rate 23*(yard=0)+(0<day);need 1+ground;worth 0;";
    private static final Due due = new Due("edges of days");

    private DayEdgesTest() { }

    public static void main(String[] args) {
        noTurnBehindTheLastYard();
        aTurnForTheLastYard();
        noLessThanNeed();
        needIsAskedEachTime();
        dayAlone();
        changesHoldAtOnce();
        kindsInRuns();
        noWorkIsLeft();
        theLastDayThereIs();
        threeHundredDays();
        runsOfNoneAndOneDay();
        leastAndMostMeeting();
        countyAsAllIsNow();
        doneBehindNoneAndMostDays();
        easeUpToTen();
        easeOfLikeOnes();
        menFromOneToThirty();
        quarrelIfMoreIsGained();
        quarrelEnds();
        boreOneAndAll();
        wellAtEitherEnd();
        slowedByNoneAndForty();
        slowedOnTheLastYard();
        betOnTheEnds();
        soonestOfNineteen();
        cheapestOfTwentyOne();
        drawnForTheLastYards();
        chanceOfOneAndThirty();
        imageOfANewObject();
        backAgainAndAgain();
        countsAtTheirBounds();
        due.end();
    }

    private static void is(String what, long got, long want) {
        due.is(what, got, want);
    }

    private static void gangIs(String what, TillTheyMeet x, int gang, int done, int work, int earned, int spent) {
        int[] want = {done, work, earned, spent};
        for (int w = 0; w < 4; w++) is(what + ": gang " + gang + " told " + (3 + w), x.told(gang, 3 + w), want[w]);
    }

    private static TillTheyMeet behind(int days, String text) {
        TillTheyMeet x = Roads.by(text);
        for (int d = 0; d < days; d++) x.day();
        return x;
    }

    // one has none, if all YARDS are done by then
    private static void noTurnBehindTheLastYard() {
        TillTheyMeet x = Roads.by(ALL_AT_ONCE);
        x.set(3, 7);
        is("all in a turn", x.day(), 0);
        gangIs("its turn", x, 0, 24, 0, 1207, 30);
        gangIs("no turn", x, 1, 0, 0, 0, 0);
        is("none is left", x.day(), 0);
        gangIs("no turn more", x, 0, 24, 0, 1207, 30);
        gangIs("no turn", x, 1, 0, 0, 0, 0);
        is("the day passes all the same", x.count(1), 2);
    }

    private static void aTurnForTheLastYard() {
        TillTheyMeet x = Roads.by("rate 23*(yard=0)+(yard=23);need 1;worth 0;");
        x.set(3, 7);
        is("the last one by gang 1", x.day(), 0);
        gangIs("all but one", x, 0, 23, 0, 1157, 30);
        gangIs("the last one", x, 1, 1, 0, 57, 30);
        x.day();
        gangIs("no turn more", x, 0, 23, 0, 1157, 30);
        gangIs("no turn more", x, 1, 1, 0, 57, 30);
        TillTheyMeet all = Roads.by(ALL_DOWNWARD);
        all.day();
        gangIs("a turn in vain", all, 0, 0, 0, 0, 30);
        gangIs("all downward", all, 1, 24, 0, 1200, 30);
    }

    // WORK is no less than need
    private static void noLessThanNeed() {
        int[][] rateNeedDoneWork = {{10, 10, 1, 0}, {10, 11, 0, 10}, {10, 9, 1, 1}, {20, 10, 2, 0}, {19, 10, 1, 9},
            {21, 10, 2, 1}, {1, 1, 1, 0}, {0, 1, 0, 0}, {999, 999, 1, 0}, {998, 999, 0, 998}};
        for (int[] r : rateNeedDoneWork) {
            TillTheyMeet x = behind(1, "rate " + r[0] + ";need " + r[1] + ";worth 0;");
            for (int g = 0; g < 2; g++) gangIs("rate " + r[0] + ", need " + r[1], x, g, r[2], r[3], 50 * r[2], 30);
        }
    }

    // asked each time
    private static void needIsAskedEachTime() {
        // yards 0 .. 3 need 1, 2, 3, 4; gang 1 begins with 24, 23
        TillTheyMeet byYard = behind(1, "rate 9+38*(12<yard);need 1+yard;worth 0;");
        gangIs("9 for 1, 2, 3", byYard, 0, 3, 3, 150, 30);
        gangIs("47 for 24, 23", byYard, 1, 2, 0, 100, 30);
        TillTheyMeet byGround = Roads.by("rate 9;need 2+ground*3;worth 0;");
        byGround.ground(1, 0, 2);
        byGround.ground(22, 0, 1);
        byGround.ground(21, 0, 1);
        byGround.day();
        gangIs("9 for 2; 8 are too much", byGround, 0, 1, 7, 50, 30);
        gangIs("9 for 2, 5; 5 are too much", byGround, 1, 2, 2, 100, 30);
        TillTheyMeet byKnown = Roads.by("rate 9;need 4-3*known;worth 0;");
        byKnown.bore(1, 1);
        byKnown.day();
        gangIs("9 for 4, 1, 4", byKnown, 0, 3, 0, 150, 30);
        gangIs("9 for 4, 4; 4 are too much", byKnown, 1, 2, 1, 100, 30);
    }

    // asked each time, also of a text that is nothing but the day
    private static void dayAlone() {
        TillTheyMeet rate = Roads.by("rate day;need 10;worth 0;");
        int[] byRate = {0, 0, 0, 0, 0, 1, 1, 2, 2, 3};
        for (int n = 0; n < byRate.length; n++) is("rate is the day, behind " + n, rate.done(0, n), byRate[n]);
        // 3 a day, for 1, 1, 2, 3, 4, 5, 6
        TillTheyMeet need = Roads.by("rate 3;need day;worth 0;");
        int[] byNeed = {0, 3, 6, 7, 8, 9, 9, 10};
        for (int n = 0; n < byNeed.length; n++) is("need is the day, behind " + n, need.done(1, n), byNeed[n]);
        for (int n = 1; n < byNeed.length; n++) {
            rate.day();
            need.day();
            is("rate is the day, day " + n, rate.told(1, 3), byRate[n]);
            is("need is the day, day " + n, need.told(0, 3), byNeed[n]);
        }
    }

    // what is changed between two days in which no yard is done, too
    private static void changesHoldAtOnce() {
        TillTheyMeet x = behind(1, "rate men;need 100+ground*50-known*80;worth 0;");
        Roads.write(x, "rate 0;need 40;worth 0;");
        x.set(0, 15);
        x.day();
        gangIs("more men", x, 0, 0, 25, 0, 75);
        gangIs("as many men", x, 1, 0, 20, 0, 60);
        x.bore(0, 1);
        x.day();
        gangIs("its yard is known", x, 0, 1, 20, 50, 120);
        gangIs("its yard is not", x, 1, 0, 30, 0, 90);
        x.ground(23, 0, 1);
        x.set(1, 30);
        for (int d = 0; d < 3; d++) x.day();
        gangIs("sand", x, 0, 1, 65, 50, 255);
        gangIs("clay", x, 1, 0, 120, 0, 360);
        x.force(2);
        x.day();
        gangIs("another rule", x, 0, 2, 25, 100, 300);
        gangIs("another rule", x, 1, 3, 0, 150, 450);
        x.gang(0, 1, 9);
        x.gang(1, 5, 9);
        x.day();
        gangIs("another kind", x, 0, 2, 35, 100, 354);
        gangIs("another kind", x, 1, 3, 10, 150, 540);
    }

    private static void kindsInRuns() {
        TillTheyMeet x = Roads.by("rate 3;need 1;worth 0;");
        x.gang(0, 1, 2);
        x.gang(1, 3, 7);
        // 11 a day at 2 more; twice 11 in day 0, at 14 and 5 more
        int[] want = {1, 11, 11 * 50 - 32, 13 * 50 - 49, 1200, -1200};
        for (int w = 0; w < 6; w++) is("kinds, run " + w, x.run(w), want[w]);
        x.gang(0, 2, 3);
        x.gang(1, 4, 8);
        // 3 a day each, but gang 1 none in odd days, at 1 more: 15 and 9 in five days
        int[] want2 = {5, 15, 15 * 50 - 5 * 30, 9 * 50 - 5 * 31, 1200, -1200};
        for (int w = 0; w < 6; w++) is("kinds, run " + w, x.run(w), want2[w]);
    }

    // If no YARD is left then, its WORK is 0
    private static void noWorkIsLeft() {
        TillTheyMeet one = behind(1, "rate 900*(yard=0);need 1;worth 0;");
        gangIs("much is over", one, 0, 24, 0, 1200, 30);
        TillTheyMeet two = behind(1, "rate 900*(yard=23);need 1;worth 0;");
        gangIs("much is over", two, 1, 24, 0, 1200, 30);
        // gang 1 has 3 towards its yard of 9, when gang 0 does all that is left
        TillTheyMeet other = behind(1, "rate 3+400*(yard=0 and day=1);need 9;worth 0;");
        gangIs("some", other, 1, 0, 3, 0, 30);
        other.day();
        gangIs("all that is left", other, 0, 24, 0, 1200, 60);
        gangIs("the other one's stays", other, 1, 0, 3, 0, 30);
        TillTheyMeet left = behind(1, "rate 24*(yard=0)+5;need 1+10*(yard=23);worth 0;");
        gangIs("a yard is left, and some work", left, 0, 23, 6, 1150, 30);
    }

    // THE DAY is 1 more (999 at most); 512 calls do not reach it, yet the class keeps to it
    private static void theLastDayThereIs() {
        TillTheyMeet x = behind(998, "rate day=999;need 1;worth 0;");
        is("the last but one", x.count(1), 998);
        is("nobody has done any", x.count(0), 24);
        is("none in day 998", x.done(0, 1), 0);
        is("one in day 999", x.done(0, 2), 1);
        is("one a day, as day 999 stays", x.done(1, 300), 12);
        is("RUN", x.run(0), 13);
        x.day();
        is("the last", x.count(1), 999);
        is("not done yet", x.count(0), 24);
        is("one each", x.day(), 22);
        is("no day behind the last", x.count(1), 999);
        is("image", x.image(), 999);
        is("one each", x.day(), 20);
        is("back", x.back(), 999);
    }

    // 300 at most
    private static void threeHundredDays() {
        for (int day = 297; day <= 302; day++) {
            String text = "rate 24*(yard=0 and day=" + day + ");need 1;worth 0;";
            boolean meet = day <= 299;
            TillTheyMeet x = Roads.by(text);
            is("ENDS, in day " + day, x.run(0), meet ? day + 1 : 300);
            is("MEETING, in day " + day, x.run(1), meet ? 24 : 0);
            is("GAIN of gang 0, in day " + day, x.run(2), meet ? 1200 - 30 * (day + 1) : -9000);
            is("GAIN of gang 1, in day " + day, x.run(3), meet ? -30 * day : -9000);
            is("PAID, in day " + day, x.run(4), meet ? 1200 : 0);
            TillTheyMeet later = behind(2, text);
            is("ENDS from day 2 on, in day " + day, later.run(0), day <= 301 ? day - 1 : 300);
            is("MEETING from day 2 on, in day " + day, later.run(1), day <= 301 ? 24 : 0);
        }
    }

    private static void runsOfNoneAndOneDay() {
        TillTheyMeet x = Roads.by(ALL_AT_ONCE);
        is("one day", x.run(0), 1);
        x.day();
        int[] want = {0, 24, 1170, 0, 1200, -1200};
        for (int w = 0; w < 6; w++) is("no day, run " + w, x.run(w), want[w]);
        x.day();
        for (int w = 0; w < 6; w++) is("no day, later, run " + w, x.run(w), want[w]);
    }

    private static void leastAndMostMeeting() {
        is("all by gang 0", Roads.by(ALL_AT_ONCE).run(1), 24);
        is("all by gang 1", Roads.by(ALL_DOWNWARD).run(1), 0);
        is("none by any", Roads.by(STILL).run(1), 0);
        is("half by each", Roads.by(A_YARD_A_DAY).run(1), 12);
        is("all but one by gang 0", Roads.by(ONE_LEFT).run(1), 24);
    }

    private static void countyAsAllIsNow() {
        TillTheyMeet x = Roads.by("rate 24*(yard=0);need 1;worth known+ahead*2+day*3+men*5+(yard=0)*7+(yard=23)*9;");
        x.set(0, 2);
        x.set(1, 29);
        is("none known, 24 ahead, day 0", x.run(5), 24 * 48 + 24 * 10 + 7 + 9 - 1200);
        x.day();
        is("all known, none ahead, day 1", x.run(5), 24 + 24 * 3 + 24 * 10 + 7 + 9 - 1200);
    }

    // behind n DAYS (0 .. 300)
    private static void doneBehindNoneAndMostDays() {
        TillTheyMeet x = Roads.by("rate 24*(yard=0)*(day=299);need 1;worth 0;");
        is("behind no day", x.done(0, 0), 0);
        is("behind 299", x.done(0, 299), 0);
        is("behind 300", x.done(0, 300), 24);
        TillTheyMeet y = behind(3, A_YARD_A_DAY);
        for (int g = 0; g < 2; g++) {
            for (int n = 0; n <= 12; n++) is("behind " + n, y.done(g, n), Math.min(12, 3 + n));
            is("behind their meeting", y.done(g, 300), 12);
        }
    }

    // of k 0 .. 10
    private static void easeUpToTen() {
        for (int day = 0; day <= 13; day++) {
            int k = Math.min(day, 10);
            for (int g = 0; g < 2; g++) {
                TillTheyMeet x = Roads.by("rate 24*(yard=" + 23 * g + " and day=" + day + ");need 1;worth 0;");
                is("ease till day " + day, x.ease(g, 0), k);
                is("gain of all in day " + day, x.ease(g, 1), 1200 - 30 * (day - k + 1));
                // it works in vain till then: gang 0 in that day, too
                is("the other one had better not work", x.ease(1 - g, 0), Math.min(day + g, 10));
            }
        }
        TillTheyMeet later = behind(4, "rate 24*(yard=0 and day=9);need 1;worth 0;");
        is("from now on", later.ease(0, 0), 5);
        is("what is spent stays", later.ease(0, 1), 1200 - 30 * 5);
    }

    private static void easeOfLikeOnes() {
        TillTheyMeet still = Roads.by(STILL);
        still.set(4, 0);
        is("all alike", still.ease(0, 0), 0);
        is("all alike", still.ease(0, 1), 0);
        is("none is best", still.ease(1, 0), 0);
        TillTheyMeet down = Roads.by(ALL_DOWNWARD);
        is("1 .. 10 are alike: no turn at all", down.ease(0, 0), 1);
        is("no turn at all", down.ease(0, 1), 0);
        is("0 .. 10 are alike", down.ease(1, 0), 0);
        is("all", down.ease(1, 1), 1170);
        down.day();
        for (int g = 0; g < 2; g++) {
            is("they have met", down.ease(g, 0), 0);
            is("they have met", down.ease(g, 1), g == 0 ? -30 : 1170);
        }
    }

    // of 1 .. 30 MEN
    private static void menFromOneToThirty() {
        for (int m = 0; m <= 31; m++) {
            boolean tried = m >= 1 && m <= 30;
            for (int g = 0; g < 2; g++) {
                TillTheyMeet x = Roads.by("rate 24*(yard=" + 23 * g + " and men=" + m + ");need 1;worth 0;");
                is("best by " + m, x.men(g, 0), tried ? m : 1);
                is("gain by " + m, x.men(g, 1), tried ? 1200 - 3 * m : -900);
            }
        }
        TillTheyMeet free = Roads.by("rate 24*(yard=0 and 7<men);need 1;worth 0;");
        free.set(4, 0);
        is("8 .. 30 are alike", free.men(0, 0), 8);
        is("8 .. 30 are alike", free.men(0, 1), 1200);
        is("all are alike", free.men(1, 0), 1);
        TillTheyMeet met = behind(1, ALL_AT_ONCE);
        is("they have met", met.men(0, 0), 1);
        is("they have met", met.men(0, 1), 1170);
    }

    private static void quarrelIs(String what, TillTheyMeet x, int turns, int first, int second) {
        int[] want = {turns, first, second};
        for (int w = 0; w < 3; w++) is(what + ": quarrel " + w, x.quarrel(w), want[w]);
    }

    private static TillTheyMeet sevenOrThirteen(int yard, int wage, int men) {
        TillTheyMeet x = Roads.by("rate 24*(yard=" + yard + " and (men=7 or men=13));need 1;worth 0;");
        x.set(4, wage);
        x.set(yard == 0 ? 0 : 1, men);
        return x;
    }

    // if its GAIN is more by them than by what it has
    private static void quarrelIfMoreIsGained() {
        quarrelIs("as much by 7", sevenOrThirteen(0, 0, 13), 0, 13, 10);
        quarrelIs("6 more by 7", sevenOrThirteen(0, 1, 13), 1, 7, 10);
        quarrelIs("it has them", sevenOrThirteen(0, 1, 7), 0, 7, 10);
        quarrelIs("more than none", sevenOrThirteen(0, 0, 14), 1, 7, 10);
        quarrelIs("as much by 7, the other one", sevenOrThirteen(23, 0, 13), 0, 10, 13);
        // gang 0 works in vain: by 1 man it spends least
        quarrelIs("both", sevenOrThirteen(23, 1, 13), 2, 1, 7);
    }

    // it ends behind two turns in which nobody did; 8 turns at most
    private static void quarrelEnds() {
        quarrelIs("nobody ever did", behind(1, ALL_AT_ONCE), 0, 10, 10);
        TillTheyMeet still = Roads.by(STILL);
        quarrelIs("both at once", still, 2, 1, 1);
        still.set(0, 1);
        quarrelIs("the second one alone", still, 1, 1, 1);
        still.set(1, 1);
        quarrelIs("nobody", still, 0, 1, 1);
        TillTheyMeet x = new TillTheyMeet();
        x.ground(5, 0, 3);
        x.ground(12, 0, 2);
        x.ground(20, 0, 1);
        quarrelIs("all eight turns, as ../shared/tests has it", x, 8, 22, 30);
    }

    // BORED: n 1 .. 24, not beyond YARD 23
    private static void boreOneAndAll() {
        for (int k = 0; k < 24; k++) {
            for (int n : new int[] {1, 24 - k}) {
                TillTheyMeet x = new TillTheyMeet();
                is("bore " + k + " " + n, x.bore(k, n), n);
                is("bore again " + k + " " + n, x.bore(k, n), 0);
                for (int y = 0; y < 24; y++) is("known " + y, x.yard(y, 1), y >= k && y < k + n ? 1 : 0);
            }
        }
        TillTheyMeet x = behind(2, A_YARD_A_DAY);
        x.ground(1, 1, 0);
        is("done ones count as well, if they are not known", x.bore(0, 24), 21);
    }

    // the first of GROUND 2 or more; NONE
    private static void wellAtEitherEnd() {
        int[] grounds = {0, 1, 2, 3};
        for (int g : grounds) {
            for (int y = 0; y < 24; y++) {
                TillTheyMeet x = new TillTheyMeet();
                x.ground(y, 0, g);
                is("well 0, ground " + g + " at " + y, x.well(0), g < 2 ? NONE : y);
                is("well 1, ground " + g + " at " + y, x.well(1), g < 2 ? NONE : 23 - y);
            }
        }
        TillTheyMeet done = Roads.by(A_YARD_A_DAY);
        done.ground(0, 0, 3);
        done.ground(23, 0, 2);
        is("the next one", done.well(0), 0);
        is("the next one", done.well(1), 0);
        done.day();
        is("done ones are none", done.well(0), NONE);
        is("done ones are none", done.well(1), NONE);
        done.ground(1, 0, 2);
        is("the first", done.well(0), 0);
        is("the last", done.well(1), 21);
        TillTheyMeet one = behind(1, ONE_LEFT);
        is("one is left, of sand", one.well(0), NONE);
        one.ground(23, 0, 2);
        is("one is left", one.well(0), 0);
        is("one is left", one.well(1), 0);
        TillTheyMeet met = Roads.by(ALL_AT_ONCE);
        for (int y = 0; y < 24; y++) met.ground(y, 0, 3);
        met.day();
        is("none is left", met.well(0), NONE);
        is("none is left", met.well(1), NONE);
    }

    private static void slowedByNoneAndForty() {
        TillTheyMeet x = Roads.by("rate 1;need 39+ground;worth 0;");
        for (int g = 0; g < 2; g++) {
            x.sheet(0, g, 0);
            is("an empty sheet", x.slowed(g, 0), 15);
            x.sheet(0, g, 38);
            is("none in 38 days", x.slowed(g, 0), 15);
            x.sheet(0, g, 39);
            is("none in 39 days", x.slowed(g, 0), 14);
            x.cell(0, 38, 1);
            is("one in the 39th", x.slowed(g, 0), 1);
            x.sheet(0, g, 40);
            is("none in 40 days", x.slowed(g, 0), 12);
            x.cell(0, 39, 1);
            is("one in the 40th", x.slowed(g, 0), 2);
            x.cell(0, 38, 1);
            is("one in the 39th, and no more", x.slowed(g, 0), 1);
            x.cell(0, 37, 1);
            is("one in the 38th", x.slowed(g, 0), 0);
            x.sheet(0, g, 1);
            x.cell(0, 0, -1);
            is("less than none", x.slowed(g, 0), 0);
        }
        x.sheet(0, NONE, 0);
        is("missing again", x.slowed(0, 0), MISSING);
    }

    private static void slowedOnTheLastYard() {
        TillTheyMeet x = behind(1, ONE_LEFT);
        for (int g = 0; g <= 3; g++) {
            int[] done = new int[5];
            for (int d = 0; d < 5; d++) done[d] = d < g ? 23 : 24;
            Roads.fill(x, 0, 0, done);
            is("gang 0 does it on ground " + g, x.slowed(0, 0), 1 << g);
        }
        Roads.fill(x, 0, 0, 23, 23, 23, 23, 23);
        is("gang 0 has to do it", x.slowed(0, 0), 0);
        Roads.fill(x, 0, 0, 0, 0, 0, 0, 0);
        is("gang 1 can't, on any ground", x.slowed(1, 0), 15);
        x.ground(23, 0, 2);
        is("its ground as it is does not matter", x.slowed(1, 0), 15);
        x.day();
        x.day();
        x.day();
        is("none is left", x.slowed(1, 0), STATE);
    }

    // the one that is nearest to MEETING; of like ones the first
    private static void betOnTheEnds() {
        int[][] betsOn24 = {{24, 0, 0, 24}, {0, 24, 23, 24}, {0, 1, 2, 2}, {23, 22, 24, 24}, {5, 5, 5, 5}, {0, 0, 0, 0}};
        for (int[] b : betsOn24) is("bet on 24", Roads.by(ALL_AT_ONCE).bet(b[0], b[1], b[2]), b[3]);
        int[][] betsOn0 = {{24, 0, 24, 0}, {1, 24, 0, 0}, {24, 23, 22, 22}, {24, 24, 24, 24}};
        for (int[] b : betsOn0) is("bet on 0", Roads.by(ALL_DOWNWARD).bet(b[0], b[1], b[2]), b[3]);
        int[][] betsOn12 = {{11, 13, 13, 11}, {13, 11, 11, 13}, {24, 0, 0, 24}, {0, 24, 24, 0}, {10, 13, 11, 13}, {10, 11, 13, 11},
            {14, 10, 11, 11}, {12, 11, 13, 12}, {11, 12, 13, 12}, {11, 13, 12, 12}};
        for (int[] b : betsOn12) is("bet on 12", Roads.by(A_YARD_A_DAY).bet(b[0], b[1], b[2]), b[3]);
    }

    // of MEN 1 .. 19 of GANG 0, GANG 1 having 20 less these
    private static void soonestOfNineteen() {
        for (int m = 0; m <= 21; m++) {
            boolean tried = m >= 1 && m <= 19;
            TillTheyMeet up = Roads.by("rate 24*(yard=0 and men=" + m + ");need 1;worth 0;");
            is("gang 0 by " + m, up.soonest(0), tried ? m : 1);
            is("gang 0 by " + m, up.soonest(1), tried ? 1 : 300);
            TillTheyMeet down = Roads.by("rate 24*(yard=23 and men=" + m + ");need 1;worth 0;");
            is("gang 1 by " + m, down.soonest(0), tried ? 20 - m : 1);
            is("gang 1 by " + m, down.soonest(1), tried ? 1 : 300);
        }
        TillTheyMeet alike = Roads.by(A_YARD_A_DAY);
        alike.set(0, 30);
        alike.set(1, 30);
        is("of like ones the fewest", alike.soonest(0), 1);
        is("ENDS then", alike.soonest(1), 12);
        TillTheyMeet some = Roads.by("rate 24*(yard=0 and 6<men);need 1;worth 0;");
        is("of like ones the fewest", some.soonest(0), 7);
        TillTheyMeet met = behind(1, ALL_AT_ONCE);
        is("they have met", met.soonest(0), 1);
        is("they have met", met.soonest(1), 0);
    }

    /** A gang of so many men does all in a day; if it is gang 1, gang 0 has a turn of 1 man in vain. */
    private static TillTheyMeet oneAgainstMany(int gang, int wage, int men, int payForADay) {
        TillTheyMeet x = Roads.by(gang == 0 ? ALL_AT_ONCE : ALL_DOWNWARD);
        x.set(4, wage);
        x.set(0, 1);
        x.set(gang, men);
        x.set(3, payForADay);
        return x;
    }

    // of PAYS 0, 5, .. 100 the least by which neither GAIN is below 0; NONE
    private static void cheapestOfTwentyOne() {
        // 12 yards each in 12 days of 10 men: 10 a yard for each 1 of the wage, 1 a yard less for each 1 of a day's pay
        int[][] wageDayWant = {{0, 0, 0}, {1, 0, 10}, {2, 0, 20}, {10, 0, 100}, {11, 0, NONE}, {11, 10, 100}, {11, 9, NONE},
            {1, 10, 0}, {1, 9, 5}, {1, 5, 5}, {1, 4, 10}, {99, 990, 0}, {99, 989, 5}, {99, 890, 100}, {99, 889, NONE}};
        for (int[] w : wageDayWant) {
            TillTheyMeet x = Roads.by(A_YARD_A_DAY);
            x.set(4, w[0]);
            x.set(3, w[1]);
            is("cheapest, wage " + w[0] + ", for a day " + w[1], x.cheapest(), w[2]);
            is("pay stays", x.count(2), 50);
        }
        TillTheyMeet never = Roads.by(STILL);
        is("never", never.cheapest(), NONE);
        never.set(4, 0);
        is("nothing is earned or spent", never.cheapest(), 0);
        // gang 1 alone, then gang 0 alone, would be below 0
        TillTheyMeet down = Roads.by(ALL_DOWNWARD);
        is("gang 0 spends 30 in vain", down.cheapest(), NONE);
        is("gang 1 has no turn", Roads.by(ALL_AT_ONCE).cheapest(), 5);
        // 11 times 11 is 1 more than 24 times 5, 10 times 12 is just so much
        is("1 below 0, gang 0", oneAgainstMany(0, 11, 11, 0).cheapest(), 10);
        is("just 0, gang 0", oneAgainstMany(0, 10, 12, 0).cheapest(), 5);
        // a day's pay is 11, as much as gang 0 spends
        is("1 below 0, gang 1", oneAgainstMany(1, 11, 12, 11).cheapest(), 10);
        is("just 0, gang 1", oneAgainstMany(1, 11, 12, 12).cheapest(), 5);
        TillTheyMeet met = behind(1, ALL_AT_ONCE);
        is("they have met, and gained", met.cheapest(), 0);
        down.day();
        is("they have met, and gang 0 has lost", down.cheapest(), NONE);
    }

    // (z >>> 12) % 4 for each YARD that isn't done, by numbers
    private static void drawnForTheLastYards() {
        int[][] seedFirstSecond = {{0, 3, 1}, {-1, 2, 3}, {1, 3, 3}, {2, 0, 0}, {3, 1, 2}, {6, 0, 3}, {7, 1, 0}, {10, 0, 1},
            {Integer.MAX_VALUE, 2, 3}, {Integer.MIN_VALUE, 3, 1}};
        TillTheyMeet one = behind(1, ONE_LEFT);
        one.ground(23, 0, 3);
        TillTheyMeet first = behind(1, "rate 22*(yard=0)+(0<day);need 1+5*ground*(yard=22);worth 0;");
        TillTheyMeet second = behind(1, "rate 22*(yard=0)+(0<day);need 1+5*ground*(yard=23);worth 0;");
        for (int[] s : seedFirstSecond) {
            is("one is left, seed " + s[0], one.drawn(s[0]), 1 + s[1]);
            is("the first of two, seed " + s[0], first.drawn(s[0]), 1 + 5 * s[1]);
            is("the second of two, seed " + s[0], second.drawn(s[0]), 1 + 5 * s[2]);
        }
        is("the ground stays", one.yard(23, 0), 3);
        is("none is left", behind(1, ALL_AT_ONCE).drawn(6), 0);
        is("they never meet", Roads.by(STILL).drawn(6), 300);
    }

    private static void chanceIs(TillTheyMeet x, int seed, int many, int most, int above, int below) {
        String what = "chance " + seed + " " + many + " " + most;
        is(what, x.chance(seed, many, most, 0), above);
        is(what + ", below", x.chance(seed, many, most, 1), below);
    }

    // In how many of 1 .. 30 seeds ENDS DRAWN is no more than most (0 .. 300), in lowest terms
    private static void chanceOfOneAndThirty() {
        TillTheyMeet x = behind(1, ONE_LEFT);
        // seeds 0 .. 3 end in 4, 4, 1, 2 days
        chanceIs(x, 2, 1, 0, 0, 1);
        chanceIs(x, 2, 1, 1, 1, 1);
        chanceIs(x, 3, 1, 1, 0, 1);
        chanceIs(x, 3, 1, 2, 1, 1);
        chanceIs(x, 0, 4, 0, 0, 1);
        chanceIs(x, 0, 4, 1, 1, 4);
        chanceIs(x, 0, 4, 2, 1, 2);
        chanceIs(x, 0, 4, 3, 1, 2);
        chanceIs(x, 0, 4, 4, 1, 1);
        chanceIs(x, 0, 3, 1, 1, 3);
        chanceIs(x, 0, 30, 0, 0, 1);
        chanceIs(x, 0, 30, 1, 4, 15);
        chanceIs(x, 0, 30, 2, 8, 15);
        chanceIs(x, 0, 30, 3, 11, 15);
        chanceIs(x, 0, 30, 4, 1, 1);
        chanceIs(x, 0, 30, 300, 1, 1);
        // the seed behind the greatest int is the least one; they end in 3 and 4, as -1 and 0 do
        chanceIs(x, Integer.MAX_VALUE, 2, 2, 0, 1);
        chanceIs(x, Integer.MAX_VALUE, 2, 3, 1, 2);
        chanceIs(x, Integer.MAX_VALUE, 2, 4, 1, 1);
        chanceIs(x, -1, 2, 3, 1, 2);
        TillTheyMeet still = Roads.by(STILL);
        chanceIs(still, 9, 30, 299, 0, 1);
        chanceIs(still, 9, 30, 300, 1, 1);
        TillTheyMeet met = behind(1, ALL_AT_ONCE);
        chanceIs(met, 9, 30, 0, 1, 1);
    }

    private static void imageOfANewObject() {
        TillTheyMeet x = new TillTheyMeet();
        is("there is none", x.back(), STATE);
        int[] then = Roads.allOf(x);
        is("an image of a new object", x.image(), 0);
        for (int y = 0; y < 24; y++) {
            x.ground(y, 0, 3);
            x.ground(y, 1, 1);
        }
        for (int w = 0; w < 5; w++) x.set(w, 30);
        x.day();
        is("back", x.back(), 0);
        Roads.alike(due, "as a new object", Roads.allOf(x), then);
    }

    private static void backAgainAndAgain() {
        TillTheyMeet x = behind(2, A_YARD_A_DAY);
        is("image", x.image(), 2);
        for (int i = 0; i < 3; i++) {
            x.day();
            x.day();
            is("on day 4", x.count(0), 16);
            is("back", x.back(), 2);
            is("on day 2", x.count(0), 20);
        }
        is("back where one is", x.back(), 2);
        while (x.count(0) > 0) x.day();
        is("an image of a road that is done", x.image(), 12);
        is("back", x.back(), 12);
        is("all are done", x.count(0), 0);
        is("nobody has a turn", x.day(), 0);
        is("a day passes", x.count(1), 13);
    }

    private static void countsAtTheirBounds() {
        TillTheyMeet x = Roads.by(A_YARD_A_DAY);
        for (int d = 0; d <= 14; d++) {
            is("left in day " + d, x.count(0), Math.max(0, 24 - 2 * d));
            is("day " + d, x.count(1), d);
            x.day();
        }
        int[][] bounds = {{2, 0, 999}, {3, 0, 999}, {4, 0, 99}};
        for (int[] b : bounds) {
            for (int i = 1; i < 3; i++) {
                x.set(b[0], b[i]);
                is("count of what was set", x.count(b[0]), b[i]);
            }
        }
    }
}
