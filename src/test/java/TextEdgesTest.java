/** The tape, the tokens, the faults and the texts at their bounds: the texts of "Terms" 1, promises 7 to 9. */
public final class TextEdgesTest {
    private static final int FULL = -4, BAD = -2;
    private static final Due due = new Due("edges of texts");

    private TextEdgesTest() { }

    public static void main(String[] args) {
        fullTape();
        longestText();
        everyByteAheadOfAOne();
        everyByteBehindAOne();
        everyByteAtTheHead();
        everyByteBehindTheEnd();
        numbersOfFourDigits();
        wordsAlmostRight();
        wordsOutOfPlace();
        comparedOnce();
        asLongAsCanBe();
        endsTooEarly();
        fiveOpen();
        openTillItsEnd();
        mostThatWaits();
        sixTexts();
        boundOfRate();
        boundOfNeed();
        boundOfWorth();
        widestNumbers();
        oneOrNone();
        due.end();
    }

    private static void is(String what, long got, long want) {
        due.is(what, got, want);
    }

    private static void good(String text) {
        is("good: " + text, Roads.write(new TillTheyMeet(), text), 1);
    }

    private static void fault(String text, int place) {
        TillTheyMeet x = new TillTheyMeet();
        is("fault of: " + text, Roads.write(x, text), -100 - place);
        is("the tape is empty behind a fault", x.count(6), 0);
        is("a fault is no text", x.count(5), 1);
    }

    // THE TAPE (160 bytes at most)
    private static void fullTape() {
        TillTheyMeet x = new TillTheyMeet();
        is("an empty tape", x.count(6), 0);
        for (int i = 1; i <= 159; i++) x.feed(32);
        is("the last that has room", x.feed(255), 160);
        is("full", x.feed(255), FULL);
        is("full", x.count(6), 160);
        is("BAD is named ahead of FULL", x.feed(256), BAD);
        is("159 blanks, and one that begins none", x.text(), -259);
        is("empty then", x.count(6), 0);
        is("the first again", x.feed(0), 1);
    }

    private static String filled(int size) {
        StringBuilder s = new StringBuilder("rate 1;need 1;worth 1");
        while (s.length() + 3 <= size) s.append("+1");
        while (s.length() + 1 < size) s.append(' ');
        return s.append(';').toString();
    }

    private static void longestText() {
        is("159 bytes", filled(159).length(), 159);
        good(filled(159));
        good(filled(160));
        // the ; is the 161st, and comes too late
        fault(filled(161), 160);
        StringBuilder blanks = new StringBuilder();
        for (int i = 0; i < 160; i++) blanks.append(i % 2 == 0 ? ' ' : '\n');
        fault(blanks.toString(), 160);
    }

    private static boolean isLetter(int b) {
        return b >= 'a' && b <= 'z';
    }

    private static boolean isDigit(int b) {
        return b >= '0' && b <= '9';
    }

    private static boolean isBlank(int b) {
        return b == 32 || b == 10;
    }

    // blanks are 32 and 10 alone, WORDS a .. z, NUMBERS 0 .. 9; other bytes begin none
    private static void everyByteAheadOfAOne() {
        for (int b = 0; b < 256; b++) {
            String text = "rate" + (char) b + "1;need 1;worth 1;";
            if (isBlank(b) || isDigit(b) || b == '-') good(text);
            else if (isLetter(b)) fault(text, 0);
            else fault(text, b == '(' ? 6 : 4);
        }
    }

    private static void everyByteBehindAOne() {
        for (int b = 0; b < 256; b++) {
            String text = "rate 1" + (char) b + "2;need 1;worth 1;";
            if (isDigit(b) || b == '+' || b == '-' || b == '*' || b == '<' || b == '=') good(text);
            else fault(text, isBlank(b) || b == ';' ? 7 : 6);
        }
    }

    private static void everyByteAtTheHead() {
        for (int b = 0; b < 256; b++) {
            String text = (char) b + "rate 1;need 1;worth 1;";
            if (isBlank(b)) good(text);
            else fault(text, 0);
        }
    }

    private static void everyByteBehindTheEnd() {
        for (int b = 0; b < 256; b++) {
            String text = "rate 1;need 1;worth 1;" + (char) b;
            if (isBlank(b)) good(text);
            else fault(text, 22);
        }
    }

    // as many digits as stand there, 4 at most
    private static void numbersOfFourDigits() {
        String[] taken = {"0", "9", "00", "999", "1000", "9999", "0000", "0009"};
        for (String n : taken) good("rate " + n + ";need " + n + ";worth " + n + ";");
        String[] tooLong = {"10000", "99999", "00000", "00009", "123456789012345678901234567890"};
        for (String n : tooLong) {
            fault("rate " + n + ";need 1;worth 1;", 5);
            fault("rate 1+" + n + ";need 1;worth 1;", 7);
            fault("rate 1;need 1;worth 1-" + n + ";", 22);
        }
        // a blank ends a number
        fault("rate 1234 5;", 10);
        fault("rate 1234\n5;", 10);
        // one that can't stand there is none ahead of one that is too long
        fault("rate 1 2 12345;", 7);
        fault("rate 1 12345;", 7);
    }

    private static final String[] NAMES = {"ground", "men", "yard", "ahead", "day", "known"};
    private static final String[] KEYS = {"rate", "need", "worth", "or", "and", "not"};

    // a WORD that is neither KEY nor NAME
    private static void wordsAlmostRight() {
        for (String name : NAMES) {
            good("rate " + name + ";need " + name + ";worth " + name + ";");
            for (String bad : almost(name)) {
                fault("rate " + bad + ";need 1;worth 1;", 5);
                fault("rate 1;need 1;worth 1*" + bad + ";", 22);
            }
        }
        String[] heads = {"rate", "need", "worth"};
        int[] places = {0, 7, 14};
        for (int i = 0; i < 3; i++) {
            for (String bad : almost(heads[i])) fault("rate 1;need 1;worth 1;".replace(heads[i], bad), places[i]);
        }
        for (String bad : almost("or")) fault("rate 1 " + bad + " 1;", 7);
        for (String bad : almost("and")) fault("rate 1 " + bad + " 1;", 7);
        for (String bad : almost("not")) fault("rate " + bad + " 1;", 5);
    }

    /** A word with a letter more or less at either end, with another one in each place, and twice. */
    private static String[] almost(String word) {
        int n = word.length();
        String[] all = new String[5 + 2 * n];
        all[0] = word.substring(1);
        all[1] = word.substring(0, n - 1);
        all[2] = word + "a";
        all[3] = "z" + word;
        all[4] = word + word;
        for (int i = 0; i < n; i++) {
            char c = word.charAt(i);
            all[5 + 2 * i] = word.substring(0, i) + (char) (c == 'a' ? 'b' : c - 1) + word.substring(i + 1);
            all[6 + 2 * i] = word.substring(0, i) + (char) (c == 'z' ? 'y' : c + 1) + word.substring(i + 1);
        }
        return all;
    }

    private static void wordsOutOfPlace() {
        for (String name : NAMES) {
            fault(name + " 1;need 1;worth 1;", 0);
            fault("rate 1 " + name + ";", 7);
            fault("rate 1;need 1;worth 1;" + name, 22);
        }
        for (String key : KEYS) {
            if (!key.equals("not")) fault("rate " + key + " 1;need 1;worth 1;", 5);
            if (!key.equals("or") && !key.equals("and")) fault("rate 1 " + key + " 1;need 1;worth 1;", 7);
            if (!key.equals("rate")) fault(key + " 1;need 1;worth 1;", 0);
            if (!key.equals("need")) fault("rate 1;" + key + " 1;worth 1;", 7);
            if (!key.equals("worth")) fault("rate 1;need 1;" + key + " 1;", 14);
            fault("rate 1;need 1;worth 1;" + key, 22);
        }
    }

    // SUM, perhaps < or = and a SUM
    private static void comparedOnce() {
        for (String first : new String[] {"<", "="}) {
            good("rate 1" + first + "2;need (1" + first + "2)+1;worth not 1" + first + "2;");
            for (String second : new String[] {"<", "="}) {
                fault("rate 1" + first + "2" + second + "3;", 8);
                fault("rate not 1" + first + "2" + second + "3;", 12);
                good("rate (1" + first + "2)" + second + "3;need 1" + first + "(2" + second + "3);worth 1;");
                good("rate 1" + first + "2 and 3" + second + "4 or 5" + first + "6;need 1;worth 1;");
            }
            fault("rate " + first + "1;", 5);
            fault("rate 1" + first + ";", 7);
        }
    }

    // TOKENS, each as long as can be
    private static void asLongAsCanBe() {
        good("rate4;need4;worth4;");
        good("rate1or2and3;need not4;worth(men)or(day);");
        fault("rate 1 ornot 2;", 7);
        fault("rate menor 1;", 5);
        fault("rate notmen;", 5);
        fault("ratemen;", 0);
        fault("rate 1;needmen;", 7);
        good("rate men\nor\nday;need 1;worth 1;");
        fault("rate men2;", 8);
        fault("rate 2men;", 6);
        fault("rate 1<=2;", 7);
        fault("rate 1==2;", 7);
        fault("rate 1**2;", 7);
        fault("rate 1++2;", 7);
        good("rate 1--2;need 1+-2;worth 1*-2;");
    }

    // the text's size, if it ends too early
    private static void endsTooEarly() {
        fault("", 0);
        fault(" ", 1);
        fault("\n \n", 3);
        String whole = "rate (men+12)*3<4 or not-5=6 and day;need ground;worth -known*ahead-(yard)  ;";
        good(whole);
        for (int size = 0; size < whole.length(); size++) {
            int place = size;
            if (size > 0 && isLetter(whole.charAt(size - 1)) && isLetter(whole.charAt(size))) {
                while (place > 0 && isLetter(whole.charAt(place - 1))) place--;
            }
            fault(whole.substring(0, size), place);
        }
    }

    /** All rows of the three that can be open, n of them; a not can't stand behind a - . */
    private static void open(String row, int n, int last) {
        if (n == 5) {
            StringBuilder ends = new StringBuilder("1");
            for (int i = 0; i < row.length(); i++) if (row.charAt(i) == '(') ends.append(')');
            good("rate " + row + ends + ";need 1;worth 1;");
            good("rate 1;need 1;worth " + row + ends + ";");
            fault("rate " + row + "(1", 5 + row.length());
            fault("rate " + row + "-1", 5 + row.length());
            fault("rate " + row + "not 1", 5 + row.length());
            fault("rate 1;need 1;worth " + row + "(1)" + ends, 20 + row.length());
            return;
        }
        open(row + "(", n + 1, '(');
        open(row + "-", n + 1, '-');
        if (last != '-') open(row + "not ", n + 1, 'n');
    }

    // while 5 of these are open
    private static void fiveOpen() {
        open("", 0, ' ');
        open(" \n ", 0, ' ');
    }

    // a ( till its ) , not and - till what they belong to ends
    private static void openTillItsEnd() {
        good("rate (((((1)))))-(((((1)))))*(((((1)))))<(((((1))))) and (((((1)))));need 1;worth 1;");
        good("rate -----1*-----1+-----1-----1<-----1 or -----1;need 1;worth 1;");
        good("rate not not not not not 1 and not not not not not 1 or not not not not not 1;need 1;worth 1;");
        good("rate ((((-1))))+((((-1))));need (((((1)))));worth -----1;");
        good("rate ((((1)+(1))+(1))+(1))+(1);need 1;worth 1;");
        // a not is open behind its sums' signs, up to and or or
        good("rate not 1*----1;need 1;worth 1;");
        fault("rate not 1*-----1;", 15);
        good("rate not 1+----1;need 1;worth 1;");
        fault("rate not 1+-----1;", 15);
        good("rate not 1=----1;need 1;worth 1;");
        fault("rate not 1=-----1;", 15);
        good("rate not 1 and -----1;need 1;worth 1;");
        good("rate not 1 or (((((1)))));need 1;worth 1;");
        // a - is open for its ONE alone, a ( over signs and words, till its ) 
        good("rate -1*-----1;need 1;worth 1;");
        fault("rate (1*-----1);", 12);
        fault("rate (1 or -----1);", 15);
        good("rate ((((1)-((1)))));need 1;worth 1;");
        fault("rate ((((1)-(((1))))));", 14);
    }

    // as much as can wait for its other side: five in each of five brackets, and five behind them
    private static void mostThatWaits() {
        for (int last = 0; last <= 1; last++) {
            StringBuilder e = new StringBuilder();
            for (int i = 0; i < 5; i++) e.append("0 or 1 and 1<1+1*(");
            e.append("0 or 1 and 1<1+1*").append(last).append(")))))");
            TillTheyMeet x = new TillTheyMeet();
            is(e.toString(), Roads.write(x, "rate " + e + ";need 1;worth 1;"), 1);
            x.force(1);
            is(e.toString(), x.told(0, 7), last);
        }
    }

    // There are 6 TEXTS at most, TEXT 0 with them
    private static void sixTexts() {
        TillTheyMeet x = new TillTheyMeet();
        is("TEXT 0", x.count(5), 1);
        for (int i = 1; i <= 5; i++) is("text", Roads.write(x, "rate 9;need " + i + ";worth 0;"), i);
        is("six", x.count(5), 6);
        is("FULL, the tape is empty", x.text(), FULL);
        is("FULL, the tape has a fault", Roads.write(x, "x"), FULL);
        is("the tape stays", x.count(6), 1);
        is("six", x.count(5), 6);
        is("the last", x.force(5), 0);
        is("the last", x.yard(0, 3), 5);
        is("none behind the last", x.force(6), BAD);
        is("none ahead of the first", x.force(-1), BAD);
        is("the last stays", x.count(7), 5);
        is("the first", x.force(0), 5);
        is("the first", x.yard(0, 3), 30);
        is("the same again", x.force(0), 0);
        TillTheyMeet y = new TillTheyMeet();
        for (int i = 0; i < 7; i++) is("faults fill none", Roads.write(y, "?"), -100);
        is("the tape is a text behind faults", Roads.write(y, "rate 1;need 1;worth 1;"), 1);
    }

    // rate: 0 .. 999, else the bound
    private static void boundOfRate() {
        String[] told = {"-9999*9999", "-2", "-1", "0", "1", "998", "999", "1000", "9999*9999"};
        int[] want = {0, 0, 0, 0, 1, 998, 999, 999, 999};
        for (int i = 0; i < told.length; i++) {
            TillTheyMeet x = Roads.by("rate " + told[i] + ";need 999;worth 0;");
            is("rate " + told[i], x.told(0, 7), want[i]);
            x.day();
            is("work by rate " + told[i], x.told(1, 3) * 999 + x.told(1, 4), want[i]);
        }
    }

    // need: 1 .. 999, else the bound
    private static void boundOfNeed() {
        String[] told = {"-9999*9999", "-1", "0", "1", "2", "998", "999", "1000", "9999*9999"};
        int[] want = {1, 1, 1, 1, 2, 998, 999, 999, 999};
        for (int i = 0; i < told.length; i++) {
            TillTheyMeet x = Roads.by("rate 7;need " + told[i] + ";worth 0;");
            is("need " + told[i], x.yard(5, 3), want[i]);
            x.day();
            is("done by need " + told[i], x.told(0, 3), 7 / want[i]);
        }
        TillTheyMeet y = Roads.by("rate 999;need 1000;worth 0;");
        y.day();
        is("999 is as much as a yard needs", y.told(0, 3), 1);
        is("and nothing is left", y.told(0, 4), 0);
    }

    // worth: -999 .. 999, else the bound
    private static void boundOfWorth() {
        String[] told = {"-9999*9999", "-1000", "-999", "-998", "-1", "0", "1", "998", "999", "1000", "9999*9999"};
        int[] want = {-999, -999, -999, -998, -1, 0, 1, 998, 999, 999, 999};
        for (int i = 0; i < told.length; i++) {
            TillTheyMeet x = Roads.by("rate 0;need 9;worth " + told[i] + ";");
            is("worth " + told[i], x.run(5), 24 * want[i]);
        }
    }

    private static void means(String e, int want) {
        is(e, Roads.by("rate 0;need 9;worth " + e + ";").run(5), 24 * want);
    }

    // An E is an int (32 bits, wrapping)
    private static void widestNumbers() {
        means("(4096*4096*64*2-1<0)", 0);
        means("4096*4096*64*2<0", 1);
        means("4096*4096*64*2=-(4096*4096*64*2)", 1);
        means("4096*4096*64*4", 0);
        means("4096*4096*64*4+7", 7);
        means("4096*4096*64*2-1+1<0", 1);
        means("-(4096*4096*64*2)-1<0", 0);
        means("0-4096*4096*64*2-1=4096*4096*64*2-1", 1);
    }

    // 1 or 0 (what is not 0 is true)
    private static void oneOrNone() {
        means("5 or 5", 1);
        means("-1 or 0", 1);
        means("0 or 4096*4096*128", 1);
        means("0 or 0", 0);
        means("7 and 9", 1);
        means("-1 and 2", 1);
        means("1 and 2", 1);
        means("1 and 0", 0);
        means("not 0", 1);
        means("not 1", 0);
        means("not -1", 0);
        means("not 2", 0);
        means("not 4096*4096*128", 0);
        means("1<2", 1);
        means("2<2", 0);
        means("3<2", 0);
        means("-2<-1", 1);
        means("-1<-2", 0);
        means("2=2", 1);
        means("2=3", 0);
        means("0=0", 1);
        means("-0", 0);
    }
}
