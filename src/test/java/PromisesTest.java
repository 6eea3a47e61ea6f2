/**
 * Each promise by answers that were worked out by hand from the document: ordinary inputs, edges, wrong inputs.
 * (The quarrel of eight turns and drawn(5) are not: their answers are those of ../shared/tests.)
 */
public final class PromisesTest {
    private static final int BAD = -2, STATE = -3, FULL = -4, NONE = -1;
    private static final int MISSING = -11, OUTSIDE = -12, UNLIKE = -13, BELOW_ZERO = -14;
    private static final int NO_SUCH_RUN = -100000;
    private static final long NO = -4611686018427387904L;
    private static final String STILL = "rate 0;need 999;worth 0;";
    private static final String BY_MEN = "rate men;need 10;worth 0;";
    private static final Due due = new Due("promises");

    private PromisesTest() { }

    public static void main(String[] args) {
        aNewObject();
        ground();
        yard();
        gang();
        set();
        told();
        kinds();
        feed();
        goodTexts();
        faults();
        depth();
        fullOfTexts();
        force();
        meanings();
        bounds();
        day();
        payForADay();
        run();
        done();
        ease();
        men();
        quarrel();
        bore();
        well();
        slowed();
        bet();
        soonest();
        cheapest();
        drawn();
        chance();
        imageAndBack();
        count();
        sheetAndCell();
        copy();
        grounds();
        taken();
        nothingChangesByAsking();
        due.end();
    }

    private static void is(String what, long got, long want) {
        due.is(what, got, want);
    }

    // 1
    private static void aNewObject() {
        TillTheyMeet x = new TillTheyMeet();
        for (int y = 0; y < 24; y++) {
            is("1 sand", x.yard(y, 0), 0);
            is("1 not known", x.yard(y, 1), 0);
            is("1 nobody's", x.yard(y, 2), NONE);
            is("1 need", x.yard(y, 3), 30);
        }
        int[] atFirst = {0, 0, 10, 0, 0, 0, 0, 40, 0};
        for (int g = 0; g < 2; g++) {
            for (int w = 0; w < 9; w++) is("1 told " + g + " " + w, x.told(g, w), atFirst[w]);
        }
        int[] counts = {24, 0, 50, 0, 3, 1, 0, 0};
        for (int w = 0; w < 8; w++) is("1 count " + w, x.count(w), counts[w]);
        for (int s = 0; s < 4; s++) is("1 sheet is missing", x.cell(s, 0, 0), MISSING);
        is("1 no image", x.back(), STATE);
        is("NONE", TillTheyMeet.NONE, NONE);
        is("BAD", TillTheyMeet.BAD, BAD);
        is("STATE", TillTheyMeet.STATE, STATE);
        is("FULL", TillTheyMeet.FULL, FULL);
        is("NO", TillTheyMeet.NO, NO);
    }

    // 2
    private static void ground() {
        TillTheyMeet x = new TillTheyMeet();
        is("2", x.ground(0, 0, 3), 0);
        is("2", x.ground(0, 0, 1), 3);
        is("2", x.ground(23, 0, 2), 0);
        is("2", x.yard(23, 0), 2);
        is("2", x.ground(5, 1, 1), 0);
        is("2", x.ground(5, 1, 0), 1);
        is("2", x.ground(5, 1, 1), 0);
        is("2", x.yard(5, 1), 1);
        int[][] wrong = {{-1, 0, 0}, {24, 0, 0}, {0, -1, 0}, {0, 2, 0}, {0, 0, -1}, {0, 0, 4}, {0, 1, -1}, {0, 1, 2}};
        for (int[] w : wrong) is("2 wrong", x.ground(w[0], w[1], w[2]), BAD);
        is("2 unchanged", x.yard(0, 0), 1);
        TillTheyMeet y = new TillTheyMeet();
        y.day();
        is("2 done", y.ground(0, 0, 1), STATE);
        is("2 done, and a number is none such", y.ground(0, 0, 4), BAD);
        is("2 done by gang 1", y.ground(23, 0, 1), STATE);
        is("2 next", y.ground(1, 0, 1), 0);
        is("2 next of gang 1", y.ground(22, 0, 1), 0);
        is("2 known, though done", y.ground(0, 1, 0), 1);
        is("2 unchanged", y.yard(0, 0), 0);
    }

    // 3
    private static void yard() {
        TillTheyMeet x = Roads.by("rate 40;need men*20+ground*100+yard+known*50+ahead*2+day*3;worth 0;");
        x.set(0, 1);
        x.set(1, 9);
        x.ground(7, 0, 3);
        x.ground(7, 1, 1);
        is("3 need, men of gang 0", x.yard(7, 3), 20 + 300 + 7 + 50 + 48);
        is("3", x.yard(7, 0), 3);
        is("3", x.yard(7, 1), 1);
        is("3", x.yard(7, 2), NONE);
        is("3 wrong", x.yard(-1, 0), BAD);
        is("3 wrong", x.yard(24, 0), BAD);
        is("3 wrong", x.yard(0, -1), BAD);
        is("3 wrong", x.yard(0, 4), BAD);
        x.day();
        is("3 need a day later", x.yard(7, 3), 20 + 300 + 7 + 50 + 48 + 3);
        TillTheyMeet y = new TillTheyMeet();
        y.day();
        is("3 whose", y.yard(0, 2), 0);
        is("3 whose", y.yard(1, 2), NONE);
        is("3 whose", y.yard(22, 2), NONE);
        is("3 whose", y.yard(23, 2), 1);
        is("3 need of a done one", y.yard(0, 3), 30);
    }

    // 4
    private static void gang() {
        TillTheyMeet x = new TillTheyMeet();
        for (int k = 0; k < 6; k++) is("4 kind it was", x.gang(1, k, 9 - k), k == 0 ? 0 : k - 1);
        is("4", x.told(1, 0), 5);
        is("4", x.told(1, 1), 4);
        is("4 the other one", x.told(0, 0), 0);
        int[][] wrong = {{-1, 0, 0}, {2, 0, 0}, {0, -1, 0}, {0, 6, 0}, {0, 0, -1}, {0, 0, 10}};
        for (int[] w : wrong) is("4 wrong", x.gang(w[0], w[1], w[2]), BAD);
        is("4 unchanged", x.told(0, 0), 0);
        x.day();
        int done = x.told(0, 3), work = x.told(0, 4), earned = x.told(0, 5), spent = x.told(0, 6);
        x.set(0, 17);
        x.gang(0, 3, 8);
        is("4 men stay", x.told(0, 2), 17);
        is("4 done stays", x.told(0, 3), done);
        is("4 work stays", x.told(0, 4), work);
        is("4 earned stays", x.told(0, 5), earned);
        is("4 spent stays", x.told(0, 6), spent);
    }

    // 5
    private static void set() {
        TillTheyMeet x = new TillTheyMeet();
        int[] least = {1, 1, 0, 0, 0}, most = {30, 30, 999, 999, 99}, first = {10, 10, 50, 0, 3};
        for (int w = 0; w < 5; w++) {
            is("5 was", x.set(w, least[w]), first[w]);
            is("5 was", x.set(w, most[w]), least[w]);
            is("5 wrong", x.set(w, least[w] - 1), BAD);
            is("5 wrong", x.set(w, most[w] + 1), BAD);
            is("5 was", x.set(w, least[w] + 1 + w), most[w]);
        }
        is("5", x.told(0, 2), 2);
        is("5", x.told(1, 2), 3);
        is("5", x.count(2), 3);
        is("5", x.count(3), 4);
        is("5", x.count(4), 5);
        is("5 wrong", x.set(-1, 5), BAD);
        is("5 wrong", x.set(5, 5), BAD);
    }

    // 6
    private static void told() {
        TillTheyMeet x = new TillTheyMeet();
        x.set(3, 7);
        x.gang(0, 1, 4);
        x.day();
        x.day();
        // 30 a day and 4 more than the wages; the other one 40 a day
        int[] first = {1, 4, 10, 2, 0, 114, 68, 30, 4};
        int[] second = {0, 0, 10, 2, 20, 114, 60, 40, 0};
        for (int w = 0; w < 9; w++) {
            is("6 told 0 " + w, x.told(0, w), first[w]);
            is("6 told 1 " + w, x.told(1, w), second[w]);
        }
        is("6 wrong", x.told(-1, 0), BAD);
        is("6 wrong", x.told(2, 0), BAD);
        is("6 wrong", x.told(0, -1), BAD);
        is("6 wrong", x.told(0, 9), BAD);
        TillTheyMeet y = Roads.by("rate men*20+ahead;need 1;worth 0;");
        is("6 by its own men", y.told(1, 7), 224);
        y.set(1, 3);
        is("6 by its own men", y.told(1, 7), 84);
        is("6 by its own men", y.told(0, 7), 224);
        y.day();
        is("6 none is left", y.told(1, 7), 0);
        TillTheyMeet z = Roads.by("rate ground*100+yard+known*50;need 999;worth 0;");
        z.ground(0, 0, 1);
        z.ground(23, 0, 2);
        z.bore(23, 1);
        is("6 on its next yard", z.told(0, 7), 100);
        is("6 on its next yard", z.told(1, 7), 273);
    }

    /** What a gang of a kind does on a ground in days 0 and on, no yard being done. */
    private static void does(int kind, int number, int ground, int... want) {
        TillTheyMeet x = Roads.by("rate 41;need 999;worth 0;");
        for (int g = 0; g < 2; g++) {
            x.gang(g, kind, number);
            x.ground(23 * g, 0, ground);
        }
        for (int d = 0; d < want.length; d++) {
            is("6 kind " + kind + " on " + ground + " day " + d, x.told(0, 7), want[d]);
            is("6 kind " + kind + " on " + ground + " day " + d, x.told(1, 7), want[d]);
            x.day();
        }
    }

    private static void kinds() {
        does(0, 9, 3, 41, 41);
        does(1, 9, 3, 30, 30);
        does(2, 5, 1, 41, 0, 41, 0);
        does(2, 5, 2, 41, 41);
        does(2, 9, 1, 41, 0);
        does(2, 0, 0, 41, 0);
        does(3, 0, 0, 60, 30, 60, 30);
        does(3, 1, 0, 60, 30, 30, 60);
        does(3, 9, 3, 60, 30, 30, 30, 30, 30, 30, 30, 30, 30, 30, 60);
        does(4, 0, 3, 32, 32);
        does(4, 3, 3, 32, 0, 32);
        does(4, 1, 0, 41, 41);
        does(5, 9, 3, 39, 39);
        does(5, 9, 2, 30, 30);
        int[][] costs = {{0, 9, 0}, {1, 0, 0}, {1, 9, 9}, {2, 9, 0}, {3, 0, 5}, {3, 9, 23}, {4, 9, 1}, {5, 9, 0}, {5, 0, 0}};
        for (int[] c : costs) {
            TillTheyMeet x = new TillTheyMeet();
            x.gang(0, c[0], c[1]);
            is("6 costs of kind " + c[0], x.told(0, 8), c[2]);
            x.day();
            is("6 spent by kind " + c[0], x.told(0, 6), 30 + c[2]);
        }
        TillTheyMeet lazy = Roads.by("rate 2;need 999;worth 0;");
        lazy.gang(0, 4, 1);
        lazy.ground(0, 0, 3);
        is("6 not below 0", lazy.told(0, 7), 0);
        lazy.day();
        is("6 work, not below 0", lazy.told(0, 4), 0);
    }

    // 7
    private static void feed() {
        TillTheyMeet x = new TillTheyMeet();
        is("7 wrong", x.feed(-1), BAD);
        is("7 wrong", x.feed(256), BAD);
        for (int i = 1; i <= 160; i++) is("7", x.feed(i % 2 == 0 ? 255 : 0), i);
        is("7 full", x.feed(32), FULL);
        is("7 full, and wrong", x.feed(256), BAD);
        is("7", x.count(6), 160);
        is("7 a byte that begins none", x.text(), -100);
        is("7 room again", x.feed(32), 1);
    }

    private static void good(String text) {
        TillTheyMeet x = new TillTheyMeet();
        is("8 " + text, Roads.write(x, text), 1);
        is("8 tape is empty", x.count(6), 0);
        is("8 texts", x.count(5), 2);
        is("8 the rule stays", x.count(7), 0);
    }

    private static void fault(String text, int place) {
        TillTheyMeet x = new TillTheyMeet();
        is("8 " + text, Roads.write(x, text), -100 - place);
        is("8 tape is empty", x.count(6), 0);
        is("8 texts", x.count(5), 1);
    }

    // 8
    private static void goodTexts() {
        good("rate 1;need 1;worth 1;");
        good(" \n rate\n1 ;need 1 ; worth 1 ; \n");
        good("rate4;need(4);worth-4;");
        good("rate ground+men+yard+ahead+day+known;need 9999;worth 0000;");
        good("rate 1 or 2 and not 3 < 4 or not not 5 = 6;need 1*2*3-4-5+6;worth --1;");
        good("rate 1--1;need 1*-1;worth 1<-1;");
        StringBuilder longest = new StringBuilder("rate 1;need 1;worth 1");
        while (longest.length() < 159) longest.append("+1");
        good(longest.append(longest.length() == 159 ? ";" : " ;").substring(0, 160));
    }

    private static void faults() {
        fault("", 0);
        fault("  ", 2);
        fault("rate", 4);
        fault("rate ", 5);
        fault("rate 1", 6);
        fault("rate 1;need 1;worth 1", 21);
        fault("rate 1;need 1;worth 1 \n", 23);
        fault("rate 1;need 1;worth 1;;", 22);
        fault("rate 1;need 1;worth 1; 7", 23);
        fault("rate 1;need 1;", 14);
        fault("need 1;", 0);
        fault("rate 1;worth 1;need 1;", 7);
        fault("rate 12345;", 5);
        fault("rate 00001;", 5);
        fault("rate 1+grounds;", 7);
        fault("rate groun;", 5);
        fault("rate rate;", 5);
        fault("fate 1;", 0);
        fault("rate den;", 5);
        fault("rate menz;", 5);
        fault("rate amen;", 5);
        fault("rate groundmen;", 5);
        fault("rate abcdefghijklmnopqrstuvwxyz;", 5);
        fault("rate Ground;", 5);
        fault("rate 4men;", 6);
        fault("rate men men;", 9);
        fault("rate 1<2<3;", 8);
        fault("rate 1<2=3;", 8);
        fault("rate 1<not 2;", 7);
        fault("rate 1+not 2;", 7);
        fault("rate -not 2;", 6);
        fault("rate 1 or;", 9);
        fault("rate or 1;", 5);
        fault("rate and 1;", 5);
        fault("rate not;", 8);
        fault("rate *1;", 5);
        fault("rate +1;", 5);
        fault("rate ();", 6);
        fault("rate (1;", 7);
        fault("rate 1);", 6);
        fault("rate (1", 7);
        fault("rate 1(", 6);
        fault("rate 1 > 2;", 7);
        fault("rate 1 / 2;", 7);
        fault("rate\t1;", 4);
        fault("rate 1\u0000;", 6);
        fault("rate \u00ff", 5);
        fault("rate `;", 5);
        fault("rate {;", 5);
        fault("rate :;", 5);
        // 160 bytes are kept, the 161st is refused
        StringBuilder cut = new StringBuilder("rate 1;need 1;worth 1");
        while (cut.length() < 160) cut.append(' ');
        fault(cut.append(';').toString(), 160);
    }

    private static void depth() {
        good("rate (((((1)))));need 1;worth 1;");
        good("rate (((((1)))))+(((((2)))));need (((((1)))));worth 1;");
        fault("rate ((((((1))))));need 1;worth 1;", 10);
        good("rate not not not not not 1;need 1;worth 1;");
        good("rate not not not not not 1 and not not not not not 1;need 1;worth 1;");
        fault("rate not not not not not not 1;", 25);
        good("rate -----1;need 1;worth 1;");
        good("rate -----1------1*-----1;need 1;worth 1;");
        fault("rate ------1;", 10);
        fault("rate 1-------1;", 12);
        good("rate -(-(-1));need 1;worth 1;");
        fault("rate -(-(-(1)));", 10);
        good("rate not (not -(1));need 1;worth 1;");
        fault("rate not (not -(-1));", 16);
        // a not is open till all of its comparison has ended
        good("rate not 1<----1;need 1;worth 1;");
        fault("rate not 1<-----1;", 15);
        good("rate not 1 or -----1;need 1;worth 1;");
        // five are open, and a sign between two is none of them
        good("rate (((((1-1)))));need 1;worth 1;");
        fault("rate (((((1--1)))));", 12);
        fault("rate (((((not 1)))));", 10);
        fault("rate (((((1 or not 1)))));", 15);
    }

    private static void fullOfTexts() {
        TillTheyMeet x = new TillTheyMeet();
        for (int i = 1; i <= 5; i++) {
            is("8 a fault takes no room", Roads.write(x, "rate"), -104);
            is("8", Roads.write(x, "rate " + i + ";need " + i + ";worth 0;"), i);
        }
        is("8 texts", x.count(5), 6);
        is("8 full, with an empty tape", x.text(), FULL);
        is("8 full", Roads.write(x, "rate"), FULL);
        is("8 the tape stays", x.count(6), 4);
        is("8 each has its own", x.force(4), 0);
        is("8", x.yard(0, 3), 4);
        is("8", x.force(2), 4);
        is("8", x.yard(0, 3), 2);
    }

    // 9
    private static void force() {
        TillTheyMeet x = new TillTheyMeet();
        is("9", x.force(0), 0);
        is("9 wrong", x.force(1), BAD);
        is("9 wrong", x.force(-1), BAD);
        Roads.write(x, BY_MEN);
        is("9 not yet", x.yard(0, 3), 30);
        is("9", x.force(1), 0);
        is("9", x.count(7), 1);
        is("9", x.yard(0, 3), 10);
        is("9", x.told(0, 7), 10);
        is("9 wrong", x.force(2), BAD);
        is("9 unchanged", x.count(7), 1);
        is("9", x.force(0), 1);
        is("9", x.yard(0, 3), 30);
    }

    private static void means(String e, int want) {
        is("9 " + e, Roads.by("rate 0;need " + e + ";worth 0;").yard(3, 3), want);
    }

    private static void meanings() {
        means("2+3*4", 14);
        means("(2+3)*4", 20);
        means("20-3-2", 15);
        means("20-(3-2)", 19);
        means("0012", 12);
        means("-5+20", 15);
        means("--7", 7);
        means("-3*-4", 12);
        means("20+-3", 17);
        means("10+(3<4)", 11);
        means("10+(4<4)", 10);
        means("10+(-4<4)", 11);
        means("10+(4=4)", 11);
        means("10+(4=5)", 10);
        means("10+(1+1=2)", 11);
        means("10+(5 or 0)", 11);
        means("10+(0 or 5)", 11);
        means("10+(0 or 0)", 10);
        means("10+(5 and 6)", 11);
        means("10+(5 and 0)", 10);
        means("10+(0 and 5)", 10);
        means("10+(not 5)", 10);
        means("10+(not 0)", 11);
        means("10+(not not 7)", 11);
        means("10+(1 or 0 and 0)", 11);
        means("10+(not 1 or 1)", 11);
        means("10+(not 0 and 0)", 10);
        means("10+(not 1=2)", 11);
        means("5 or 7 or 0", 1);
        means("23 ", 23);
        means("yard*100", 300);
        means("ahead", 24);
        means("men*2", 20);
        means("10+day", 10);
        means("10+known", 10);
        means("10+ground", 10);
        means("9999*9999*9999*9999", Math.max(1, Math.min(999, 9999 * 9999 * 9999 * 9999)));
        // 5000 * 5000 * 200 is 5000000000, which is 705032704 as an int
        means("10+(5000*5000*200-7050*1000*100=32*1022)", 11);
        // 2147483648 wraps to the least int
        means("10+(1024*1024*2048<0)", 11);
        means("10+(1024*1024*2048-1<0)", 10);
        means("((((1<2)+1)*2)*2)*2", 16);
        means("1+(2+(3+(4+(5+6*7*(8<9)))))", 57);
        means("(1 or 0)+(1 and 1<2+3*(2 or 0 and 1=4-4*(5 or 0 and 3<2-2*3)))", 2);
    }

    private static void bounds() {
        TillTheyMeet high = Roads.by("rate 1000;need 1000;worth 1000;");
        is("9 rate, at most", high.told(0, 7), 999);
        is("9 need, at most", high.yard(0, 3), 999);
        is("9 worth, at most", high.run(5), 24 * 999 - 24 * 50);
        TillTheyMeet low = Roads.by("rate -1;need 0;worth -1000;");
        is("9 rate, at least", low.told(0, 7), 0);
        is("9 need, at least", low.yard(0, 3), 1);
        is("9 worth, at least", low.run(5), -24 * 999);
        is("9 need, at least", Roads.by("rate 1;need -9999;worth 0;").yard(0, 3), 1);
        TillTheyMeet steady = Roads.by("rate 9999;need 999;worth 0;");
        steady.gang(0, 3, 0);
        is("9 the bound is the text's", steady.told(0, 7), 1018);
        TillTheyMeet county = Roads.by("rate 999;need 1;worth yard*10+known*100+men-ahead-day+ground;");
        county.set(0, 3);
        county.bore(0, 2);
        county.ground(9, 0, 3);
        // 10 * 276, and 200, and 24 times 3 less 24, and 3; all 24 are paid
        is("9 worth as all is now", county.run(5), 2760 + 200 - 24 * 21 + 3 - 1200);
        county.day();
        // now 24 are known, none is ahead, and a day has gone
        is("9 worth as all is now", county.run(5), 2760 + 2400 + 24 * 3 - 24 + 3 - 1200);
    }

    /** 30 men against 15, by 10 a yard: gang 0 does the last one in day 6. */
    private static TillTheyMeet uneven() {
        TillTheyMeet x = Roads.by(BY_MEN);
        x.set(0, 30);
        x.set(1, 15);
        return x;
    }

    // 10
    private static void day() {
        TillTheyMeet x = uneven();
        int[] left = {20, 15, 11, 6, 2, 0, 0};
        int[] work = {5, 0, 5, 0, 5, 5, 5};
        for (int d = 0; d < 7; d++) {
            is("10 left", x.day(), left[d]);
            is("10 work of gang 0", x.told(0, 4), 0);
            is("10 work of gang 1", x.told(1, 4), work[d]);
            is("10 the day", x.count(1), d + 1);
        }
        is("10 done", x.told(0, 3), 17);
        is("10 done", x.told(1, 3), 7);
        is("10 earned", x.told(0, 5), 850);
        is("10 earned", x.told(1, 5), 350);
        is("10 spent in six turns", x.told(0, 6), 540);
        is("10 spent in five turns", x.told(1, 6), 225);
        for (int y = 0; y < 24; y++) {
            is("10 whose", x.yard(y, 2), y < 17 ? 0 : 1);
            is("10 known", x.yard(y, 1), 1);
        }
        // each yard needs more than the last one, as it is asked each time
        TillTheyMeet y = Roads.by("rate 10;need 26-ahead;worth 0;");
        is("10 needs of 2, 3, 4; then 5, of 10 each", y.day(), 20);
        is("10 what is left", y.told(0, 4), 1);
        is("10 what is left", y.told(1, 4), 5);
        is("10 done", y.told(0, 3), 3);
        is("10 done", y.told(1, 3), 1);
        TillTheyMeet z = Roads.by("rate known*30+5;need 20;worth 0;");
        z.bore(0, 1);
        z.day();
        is("10 35 on the known one", z.told(0, 3), 1);
        is("10 what is left", z.told(0, 4), 15);
        z.day();
        is("10 and 5 on one that is not", z.told(0, 3), 2);
        is("10 what is left", z.told(0, 4), 0);
        is("10 5 and 5", z.told(1, 4), 10);
    }

    private static void payForADay() {
        TillTheyMeet x = uneven();
        x.set(3, 100);
        x.set(2, 1);
        for (int d = 0; d < 8; d++) x.day();
        is("10 a day is paid in a turn alone", x.told(0, 5), 17 + 600);
        is("10 a day is paid in a turn alone", x.told(1, 5), 7 + 500);
    }

    // 11
    private static void run() {
        TillTheyMeet x = uneven();
        int[] want = {6, 17, 310, 125, 1200, -1200};
        for (int w = 0; w < 6; w++) is("11 run " + w, x.run(w), want[w]);
        is("11 wrong", x.run(-1), NO_SUCH_RUN);
        is("11 wrong", x.run(6), NO_SUCH_RUN);
        x.day();
        x.day();
        int[] behind = {4, 17, 310, 125, 1200, -1200};
        for (int w = 0; w < 6; w++) is("11 run, two days behind " + w, x.run(w), behind[w]);
        for (int d = 0; d < 9; d++) x.day();
        int[] met = {0, 17, 310, 125, 1200, -1200};
        for (int w = 0; w < 6; w++) is("11 run, as they have met " + w, x.run(w), met[w]);
        TillTheyMeet still = Roads.by(STILL);
        int[] never = {300, 0, -9000, -9000, 0, 0};
        for (int w = 0; w < 6; w++) is("11 run, never " + w, still.run(w), never[w]);
        TillTheyMeet last = Roads.by("rate 0-(day<299)+1;need 1;worth 0;");
        is("11 a day too late", Roads.by("rate 24*(day=300);need 1;worth 0;").run(1), 0);
        is("11 just in time", Roads.by("rate 24*(day=299);need 1;worth 0;").run(0), 300);
        is("11 just in time", Roads.by("rate 24*(day=299);need 1;worth 0;").run(1), 24);
        is("11 one in the last day", last.run(1), 1);
    }

    // 12
    private static void done() {
        TillTheyMeet x = uneven();
        int[] first = {0, 3, 6, 9, 12, 15, 17, 17}, second = {0, 1, 3, 4, 6, 7, 7, 7};
        for (int n = 0; n < 8; n++) {
            is("12", x.done(0, n), first[n]);
            is("12", x.done(1, n), second[n]);
        }
        is("12", x.done(0, 300), 17);
        is("12 nothing passes", x.count(1), 0);
        x.day();
        is("12 from now on", x.done(0, 0), 3);
        is("12 from now on", x.done(1, 1), 3);
        is("12 wrong", x.done(-1, 0), BAD);
        is("12 wrong", x.done(2, 0), BAD);
        is("12 wrong", x.done(0, -1), BAD);
        is("12 wrong", x.done(0, 301), BAD);
    }

    // 13
    private static void ease() {
        TillTheyMeet still = Roads.by(STILL);
        is("13 no work, no wages", still.ease(0, 0), 10);
        is("13", still.ease(0, 1), -290 * 30);
        still.set(4, 0);
        is("13 of like ones the least", still.ease(1, 0), 0);
        is("13", still.ease(1, 1), 0);
        // the yards are dear till day 3 for both, and the other one does not work
        TillTheyMeet dear = Roads.by("rate 100*(yard<12);need 10+900*(day<3);worth 0;");
        // work comes to 100 a day from its own first turn; with no easing 400 are there on day 3, and on day 4 it has 500 of 240
        is("13 when to begin", dear.ease(0, 0), 1);
        is("13", dear.ease(0, 1), 24 * 50 - 3 * 30);
        is("13 wrong", dear.ease(-1, 0), NO_SUCH_RUN);
        is("13 wrong", dear.ease(2, 0), NO_SUCH_RUN);
        is("13 wrong", dear.ease(0, -1), NO_SUCH_RUN);
        is("13 wrong", dear.ease(0, 2), NO_SUCH_RUN);
    }

    // 14
    private static void men() {
        TillTheyMeet still = Roads.by(STILL);
        is("14 fewest", still.men(0, 0), 1);
        is("14", still.men(0, 1), -900);
        still.set(4, 0);
        is("14 of like ones the least", still.men(1, 0), 1);
        is("14", still.men(1, 1), 0);
        TillTheyMeet just = Roads.by("rate 240*(men=13 or men=17);need 10;worth 0;");
        is("14 the fewer", just.men(0, 0), 13);
        is("14 all 24 in a day", just.men(0, 1), 1200 - 39);
        is("14 for the other end", just.men(1, 0), 13);
        just.set(4, 0);
        is("14 of like ones the least", just.men(0, 0), 13);
        is("14 up to 30", Roads.by("rate 240*(men=30);need 10;worth 0;").men(0, 0), 30);
        is("14 wrong", just.men(-1, 0), NO_SUCH_RUN);
        is("14 wrong", just.men(2, 0), NO_SUCH_RUN);
        is("14 wrong", just.men(0, -1), NO_SUCH_RUN);
        is("14 wrong", just.men(0, 2), NO_SUCH_RUN);
        is("14 men stay", just.told(0, 2), 10);
    }

    // 15
    private static void quarrel() {
        TillTheyMeet still = Roads.by(STILL);
        is("15 each once", still.quarrel(0), 2);
        is("15", still.quarrel(1), 1);
        is("15", still.quarrel(2), 1);
        is("15 men stay", still.told(0, 2), 10);
        is("15 men stay", still.told(1, 2), 10);
        still.set(0, 1);
        is("15 the second one alone", still.quarrel(0), 1);
        is("15", still.quarrel(2), 1);
        still.set(1, 1);
        is("15 nobody", still.quarrel(0), 0);
        still.set(4, 0);
        still.set(0, 9);
        is("15 not for like gain", still.quarrel(0), 0);
        is("15", still.quarrel(1), 9);
        is("15 wrong", still.quarrel(-1), BAD);
        is("15 wrong", still.quarrel(3), BAD);
        TillTheyMeet x = new TillTheyMeet();
        x.ground(5, 0, 3);
        x.ground(12, 0, 2);
        x.ground(20, 0, 1);
        is("15 eight at most", x.quarrel(0), 8);
        is("15", x.quarrel(1), 22);
        is("15", x.quarrel(2), 30);
    }

    // 16
    private static void bore() {
        TillTheyMeet x = new TillTheyMeet();
        is("16", x.bore(3, 4), 4);
        is("16", x.bore(5, 4), 2);
        for (int y = 0; y < 24; y++) is("16 known", x.yard(y, 1), y >= 3 && y <= 8 ? 1 : 0);
        is("16", x.bore(0, 24), 18);
        is("16", x.bore(0, 24), 0);
        TillTheyMeet z = new TillTheyMeet();
        is("16", z.bore(23, 1), 1);
        int[][] wrong = {{-1, 1}, {24, 1}, {0, 0}, {0, -1}, {0, 25}, {1, 24}, {23, 2}, {23, Integer.MAX_VALUE}};
        for (int[] w : wrong) is("16 wrong", z.bore(w[0], w[1]), BAD);
        is("16 unchanged", z.yard(0, 1), 0);
        is("16 unchanged", z.yard(22, 1), 0);
        z.day();
        is("16 those that are done are known", z.bore(0, 3), 2);
    }

    // 17
    private static void well() {
        TillTheyMeet x = new TillTheyMeet();
        is("17", x.well(0), NONE);
        x.ground(3, 0, 1);
        is("17 clay is no such", x.well(0), NONE);
        x.ground(5, 0, 2);
        x.ground(20, 0, 3);
        is("17", x.well(0), 5);
        is("17", x.well(1), 3);
        x.day();
        is("17 a day later", x.well(0), 4);
        is("17 a day later", x.well(1), 2);
        x.ground(20, 0, 0);
        is("17 from the other end", x.well(1), 17);
        x.ground(1, 0, 3);
        is("17 the next one", x.well(0), 0);
        is("17 wrong", x.well(-1), BAD);
        is("17 wrong", x.well(2), BAD);
        TillTheyMeet z = Roads.by("rate 999;need 1;worth 0;");
        z.ground(4, 0, 3);
        z.day();
        is("17 all are done", z.well(0), NONE);
        is("17 all are done", z.well(1), NONE);
    }

    private static void slow(int want, int... done) {
        for (int g = 0; g < 2; g++) {
            for (int sort = 0; sort < 3; sort++) {
                TillTheyMeet x = new TillTheyMeet();
                x.ground(g == 0 ? 0 : 23, 0, 2);
                Roads.fill(x, 2, sort, done);
                is("18 slowed", x.slowed(g, 2), want);
            }
        }
    }

    // 18
    private static void slowed() {
        slow(15);
        slow(1, 1);
        slow(1, 1, 2, 4);
        slow(14, 0);
        slow(6, 0, 1);
        slow(2, 0, 1, 3);
        slow(4, 0, 1, 2);
        slow(8, 0, 0, 1);
        slow(0, 5);
        slow(0, 0, 1, 0);
        slow(0, 1, 2, 3);
        TillTheyMeet x = new TillTheyMeet();
        is("18 wrong", x.slowed(-1, 0), BAD);
        is("18 wrong", x.slowed(2, 0), BAD);
        is("18 wrong", x.slowed(0, -1), BAD);
        is("18 wrong", x.slowed(0, 4), BAD);
        is("18 missing", x.slowed(0, 3), MISSING);
        x.day();
        Roads.fill(x, 3, 2, 2, 4);
        is("18 from now on, all that it has done", x.slowed(0, 3), 1);
        // they meet in day 9, and then as many are done for good
        TillTheyMeet y = new TillTheyMeet();
        Roads.fill(y, 0, 0, 1, 2, 4, 5, 6, 8, 9, 10, 12, 12, 12);
        is("18 behind their meeting", y.slowed(0, 0), 1);
        Roads.fill(y, 0, 0, 1, 2, 4, 5, 6, 8, 9, 10, 12, 12, 13);
        is("18 behind their meeting", y.slowed(0, 0), 0);
        TillTheyMeet z = Roads.by("rate 999;need 1;worth 0;");
        z.day();
        is("18 missing, ahead of the state", z.slowed(0, 0), MISSING);
        z.sheet(0, 0, 0);
        is("18 no yard is left", z.slowed(0, 0), STATE);
        is("18 no yard is left", z.slowed(1, 0), STATE);
    }

    // 19
    private static void bet() {
        TillTheyMeet x = new TillTheyMeet();
        is("19 at 12", x.run(1), 12);
        is("19", x.bet(0, 12, 24), 12);
        is("19", x.bet(12, 11, 13), 12);
        is("19 of like ones the first", x.bet(11, 13, 24), 11);
        is("19 of like ones the first", x.bet(24, 13, 11), 13);
        is("19 of like ones the first", x.bet(24, 0, 24), 24);
        is("19 the last", x.bet(0, 24, 1), 1);
        int[][] wrong = {{-1, 0, 0}, {25, 0, 0}, {0, -1, 0}, {0, 25, 0}, {0, 0, -1}, {0, 0, 25}};
        for (int[] w : wrong) is("19 wrong", x.bet(w[0], w[1], w[2]), BAD);
    }

    // 20
    private static void soonest() {
        TillTheyMeet x = Roads.by("rate men=7;need 1;worth 0;");
        is("20 7 at one end or the other", x.soonest(0), 7);
        is("20", x.soonest(1), 24);
        is("20 men stay", x.told(0, 2), 10);
        TillTheyMeet still = Roads.by(STILL);
        is("20 of like ones the fewest", still.soonest(0), 1);
        is("20", still.soonest(1), 300);
        TillTheyMeet most = Roads.by("rate men*(men=19 and yard<20);need 1;worth 0;");
        is("20 19 at yard 0", most.soonest(0), 19);
        is("20 19 yards, and 5", most.soonest(1), 2);
        is("20 wrong", still.soonest(-1), BAD);
        is("20 wrong", still.soonest(2), BAD);
    }

    // 21
    private static void cheapest() {
        TillTheyMeet x = new TillTheyMeet();
        is("21 270 by 12 yards", x.cheapest(), 25);
        x.set(3, 30);
        is("21 neither is below 0", x.cheapest(), 0);
        x.set(3, 0);
        x.set(4, 13);
        is("21 1170 by 12 yards is just 97 and a half", x.cheapest(), 100);
        x.set(4, 14);
        is("21 too dear", x.cheapest(), NONE);
        is("21 pay stays", x.count(2), 50);
        is("21 never", Roads.by(STILL).cheapest(), NONE);
        // gang 1 needs 225 by 7 yards
        is("21 the dearer one", uneven().cheapest(), 35);
        TillTheyMeet z = uneven();
        z.day();
        // gang 0 has 150, and wants 390 by 14 more; gang 1 has 50, and wants 175 by 6 more
        is("21 what is earned stays", z.cheapest(), 30);
    }

    /** ENDS with the grounds of a seed laid by hand. */
    private static int laid(TillTheyMeet x, int seed) {
        x.image();
        int z = seed;
        for (int y = x.told(0, 3); y < 24 - x.told(1, 3); y++) {
            z = z * 1103515245 + 12345;
            x.ground(y, 0, (z >>> 12) % 4);
        }
        int ends = x.run(0);
        x.back();
        return ends;
    }

    // 22
    private static void drawn() {
        TillTheyMeet x = new TillTheyMeet();
        x.ground(4, 0, 3);
        int[] seeds = {0, 1, 5, -77, Integer.MAX_VALUE, Integer.MIN_VALUE, 123456789};
        for (int d = 0; d < 4; d++) {
            for (int seed : seeds) is("22 seed " + seed, x.drawn(seed), laid(x, seed));
            x.set(d % 2, 25 + d);
            x.day();
        }
        is("22 the road stays", x.yard(9, 0), 0);
        TillTheyMeet y = new TillTheyMeet();
        y.ground(5, 0, 3);
        y.ground(12, 0, 2);
        y.ground(20, 0, 1);
        is("22", y.drawn(5), 25);
        TillTheyMeet z = Roads.by("rate 999;need 1;worth 0;");
        z.day();
        is("22 all are done", z.drawn(3), 0);
    }

    // 23
    private static void chance() {
        TillTheyMeet x = new TillTheyMeet();
        int[][] asked = {{5, 10, 20}, {5, 10, 25}, {0, 30, 22}, {-3, 12, 21}, {77, 1, 21}, {Integer.MAX_VALUE, 8, 22}};
        for (int[] a : asked) {
            int hits = 0;
            for (int i = 0; i < a[1]; i++) if (x.drawn(a[0] + i) <= a[2]) hits++;
            long above = x.chance(a[0], a[1], a[2], 0), below = x.chance(a[0], a[1], a[2], 1);
            is("23 the same part", above * a[1], hits * below);
            is("23 lowest terms", java.math.BigInteger.valueOf(above).gcd(java.math.BigInteger.valueOf(below)).longValue(), 1);
        }
        is("23 none", x.chance(1, 30, 0, 0), 0);
        is("23 none, below", x.chance(1, 30, 0, 1), 1);
        is("23 all", x.chance(1, 30, 300, 0), 1);
        is("23 all, below", x.chance(1, 30, 300, 1), 1);
        int[][] wrong = {{0, 0, 0}, {31, 0, 0}, {-1, 0, 0}, {1, -1, 0}, {1, 301, 0}, {1, 0, -1}, {1, 0, 2}};
        for (int[] w : wrong) is("23 wrong", x.chance(0, w[0], w[1], w[2]), NO);
    }

    // 24, 25
    private static void imageAndBack() {
        TillTheyMeet x = new TillTheyMeet();
        is("25 there is none", x.back(), STATE);
        Roads.write(x, BY_MEN);
        Roads.write(x, "rate day;need 7;worth 1;");
        x.force(1);
        x.ground(7, 0, 2);
        x.bore(9, 2);
        x.set(0, 25);
        x.set(1, 5);
        x.set(2, 77);
        x.set(3, 7);
        x.set(4, 1);
        x.gang(0, 3, 2);
        x.day();
        x.day();
        int[] then = Roads.allOf(x);
        is("24", x.image(), 2);
        Roads.alike(due, "24 nothing changes", Roads.allOf(x), then);
        x.force(2);
        x.ground(7, 0, 1);
        x.ground(9, 1, 0);
        x.bore(12, 3);
        for (int w = 0; w < 5; w++) x.set(w, 9);
        x.day();
        x.day();
        is("25", x.back(), 2);
        Roads.alike(due, "25 all is as it was", Roads.allOf(x), then);
        x.day();
        x.gang(0, 4, 6);
        x.gang(1, 5, 8);
        x.feed(32);
        is("25 again", x.back(), 2);
        is("25 kinds stay", x.told(0, 0), 4);
        is("25 numbers stay", x.told(0, 1), 6);
        is("25 kinds stay", x.told(1, 0), 5);
        is("25 numbers stay", x.told(1, 1), 8);
        is("25 the tape stays", x.count(6), 1);
        is("25 the texts stay", x.count(5), 3);
        x.day();
        is("24 a later one", x.image(), 3);
        x.day();
        is("25 the later one", x.back(), 3);
        x.sheet(0, 0, 5);
        x.back();
        is("25 sheets stay", x.cell(0, 4, 1), 1);
    }

    // 26
    private static void count() {
        TillTheyMeet x = new TillTheyMeet();
        Roads.write(x, BY_MEN);
        Roads.write(x, STILL);
        x.feed(65);
        x.set(2, 11);
        x.set(3, 12);
        x.set(4, 13);
        x.day();
        x.force(2);
        int[] want = {22, 1, 11, 12, 13, 3, 1, 2};
        for (int w = 0; w < 8; w++) is("26 count " + w, x.count(w), want[w]);
        is("26 wrong", x.count(-1), BAD);
        is("26 wrong", x.count(8), BAD);
    }

    // 27, 28
    private static void sheetAndCell() {
        TillTheyMeet x = new TillTheyMeet();
        is("27", x.sheet(3, 2, 40), 1);
        is("28", x.cell(3, 39, 5), 1);
        is("28 outside", x.cell(3, 40, 5), OUTSIDE);
        is("28 outside", x.cell(3, -1, 5), OUTSIDE);
        is("27 empty", x.sheet(3, 0, 0), 1);
        is("28 outside", x.cell(3, 0, 5), OUTSIDE);
        is("27 missing, whatever n", x.sheet(3, -1, -5), 1);
        is("28 missing", x.cell(3, 0, 5), MISSING);
        is("27 missing, whatever n", x.sheet(3, -1, 99), 1);
        is("28 missing", x.cell(0, -1, 5), MISSING);
        int[][] wrong = {{-1, 0, 0}, {4, 0, 0}, {0, -2, 0}, {0, 3, 0}, {0, 0, 41}, {4, 0, -1}, {0, 3, -1}};
        for (int[] w : wrong) is("27 wrong", x.sheet(w[0], w[1], w[2]), BAD);
        is("27 below 0", x.sheet(0, 0, -1), BELOW_ZERO);
        is("27 refusals change nothing", x.cell(0, 0, 0), MISSING);
        is("28 wrong", x.cell(-1, 0, 0), BAD);
        is("28 wrong", x.cell(4, 0, 0), BAD);
        // the lowest bits, told by the grounds that they lay: yard 5, ground 3
        cutTo(0, 0x105, 0x703, 1);
        cutTo(1, 0x10005, 0x70003, 1);
        cutTo(2, 0x105, 3, 0);
        cutTo(1, 0x105, 3, 0);
        cutTo(0, 0xff05, 0xff03, 1);
        cutTo(0, 128, 3, 0);
        x.sheet(0, 2, 2);
        x.cell(0, 0, 6);
        x.cell(0, 1, 2);
        x.sheet(0, 2, 2);
        x.grounds(0, 2, 0, 1);
        is("27 all 0 again", x.yard(6, 0), 0);
    }

    private static void cutTo(int sort, int yard, int ground, int want) {
        TillTheyMeet x = new TillTheyMeet();
        Roads.fill(x, 1, sort, yard, ground);
        is("28 cut", x.grounds(1, sort, 0, 1), want);
        is("28 cut", x.yard(5, 0), want == 1 ? 3 : 0);
    }

    // 29
    private static void copy() {
        TillTheyMeet x = new TillTheyMeet();
        Roads.fill(x, 0, 1, 1, 2, 3, 1, 5, 2, 7, 3);
        x.sheet(1, 1, 4);
        is("29", x.copy(0, 2, 1, 0, 4), 4);
        is("29 as they were", x.grounds(1, 1, 0, 2), 2);
        is("29", x.yard(3, 0), 1);
        is("29", x.yard(5, 0), 2);
        is("29 none", x.copy(0, 8, 1, 4, 0), 0);
        is("29 upon itself", x.copy(0, 0, 0, 2, 6), 6);
        // 1 2 1 2 3 1 5 2
        is("29 as they were", x.grounds(0, 1, 0, 4), 4);
        is("29", x.yard(1, 0), 2);
        is("29", x.yard(3, 0), 1);
        is("29", x.yard(5, 0), 2);
        is("29", x.yard(7, 0), 0);
        is("29 upon itself, downward", x.copy(0, 2, 0, 0, 6), 6);
        int[][] outside = {{-1, 0, 1}, {0, -1, 1}, {0, 0, -1}, {8, 0, 1}, {0, 4, 1}, {0, 0, 5}, {5, 0, 4}, {9, 0, 0},
            {0, 5, 0}, {Integer.MAX_VALUE, 0, 2}, {0, Integer.MAX_VALUE, 2}, {2, 2, Integer.MAX_VALUE},
            {0, 0, Integer.MIN_VALUE}};
        for (int[] o : outside) is("29 outside", x.copy(0, o[0], 1, o[1], o[2]), OUTSIDE);
        is("29 missing", x.copy(0, 0, 2, 0, 1), MISSING);
        is("29 missing", x.copy(2, 0, 0, 0, 1), MISSING);
        is("29 missing, ahead of outside", x.copy(2, -1, 3, 0, -1), MISSING);
        x.sheet(2, 0, 8);
        x.sheet(3, 2, 8);
        is("29 unlike", x.copy(0, 0, 2, 0, 1), UNLIKE);
        is("29 unlike", x.copy(2, 0, 3, 0, 0), UNLIKE);
        is("29 unlike, ahead of outside", x.copy(3, -1, 0, 0, -1), UNLIKE);
        is("29 wrong", x.copy(-1, 0, 0, 0, 0), BAD);
        is("29 wrong", x.copy(0, 0, 4, 0, 0), BAD);
        is("29 wrong, ahead of missing", x.copy(4, 0, 9, 0, 0), BAD);
    }

    // 30
    private static void grounds() {
        TillTheyMeet x = new TillTheyMeet();
        x.day();
        Roads.fill(x, 0, 0, 5, 3, 24, 1, 7, 4, 0, 1, -1, 1, 6, -1, 8, 2, 5, 3, 9);
        is("30 three of eight, one twice", x.grounds(0, 0, 0, 8), 3);
        is("30", x.yard(5, 0), 3);
        is("30", x.yard(8, 0), 2);
        is("30 done", x.yard(0, 0), 0);
        is("30 none", x.grounds(0, 0, -7, 0), 0);
        is("30 half a pair", x.grounds(0, 0, 0, 9), OUTSIDE);
        is("30 outside", x.grounds(0, 0, -1, 1), OUTSIDE);
        is("30 outside", x.grounds(0, 0, 17, 1), OUTSIDE);
        is("30 outside", x.grounds(0, 0, Integer.MAX_VALUE, 1), OUTSIDE);
        is("30 outside", x.grounds(0, 0, Integer.MIN_VALUE, 20), OUTSIDE);
        Roads.fill(x, 1, 2, 10, 1, 11, 2, 12);
        is("30 outside", x.grounds(1, 2, 0, 3), OUTSIDE);
        is("30 what stood ahead", x.yard(10, 0), 1);
        is("30 what stood ahead", x.yard(11, 0), 2);
        is("30 from one on", x.grounds(1, 2, 2, 1), 1);
        is("30 unlike", x.grounds(1, 0, 0, 0), UNLIKE);
        is("30 unlike, ahead of outside", x.grounds(1, 1, -1, 1), UNLIKE);
        is("30 missing", x.grounds(2, 0, 0, 0), MISSING);
        is("30 missing", x.grounds(2, 1, -1, 3), MISSING);
        int[][] wrong = {{-1, 0, 0}, {4, 0, 0}, {0, -1, 0}, {0, 3, 0}, {0, 0, -1}, {0, 0, 21}, {2, 0, 21}, {1, 0, 21}};
        for (int[] w : wrong) is("30 wrong", x.grounds(w[0], w[1], 0, w[2]), BAD);
        TillTheyMeet y = new TillTheyMeet();
        int[] forty = new int[40];
        for (int i = 0; i < 20; i++) {
            forty[2 * i] = i;
            forty[2 * i + 1] = i % 4;
        }
        Roads.fill(y, 3, 1, forty);
        is("30 twenty", y.grounds(3, 1, 0, 20), 20);
        for (int i = 0; i < 24; i++) is("30 twenty", y.yard(i, 0), i < 20 ? i % 4 : 0);
    }

    // 31
    private static void taken() {
        TillTheyMeet x = new TillTheyMeet();
        int[][] under = {{0}, {0, 1}, {0, 2}, {0, 1, 3}, {0, 2, 4}, {0, 1, 5}};
        for (int kind = 0; kind < 6; kind++) {
            x.gang(1, kind, 3 + kind);
            for (int k = 0; k < 6; k++) {
                boolean so = false;
                for (int u : under[kind]) so |= u == k;
                is("31 kind " + kind + " for " + k, x.taken(1, k), so ? 3 + kind : UNLIKE);
            }
        }
        is("31 wrong", x.taken(0, -1), BAD);
        is("31 wrong", x.taken(0, 6), BAD);
        is("31 wrong, ahead of none", x.taken(2, 6), BAD);
        is("31 no such gang", x.taken(2, 0), MISSING);
        is("31 no such gang", x.taken(-1, 5), MISSING);
    }

    private static void nothingChangesByAsking() {
        TillTheyMeet x = uneven();
        x.day();
        int[] then = Roads.allOf(x);
        for (int w = 0; w < 6; w++) x.run(w);
        for (int g = 0; g < 2; g++) {
            x.done(g, 300);
            x.ease(g, 0);
            x.men(g, 1);
            x.well(g);
            x.sheet(0, 0, 3);
            x.slowed(g, 0);
            x.taken(g, 0);
        }
        x.quarrel(0);
        x.bet(1, 2, 3);
        x.soonest(0);
        x.cheapest();
        x.drawn(4);
        x.chance(4, 30, 9, 0);
        x.image();
        Roads.alike(due, "nothing changes", Roads.allOf(x), then);
    }
}
