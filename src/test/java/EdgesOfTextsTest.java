/** Terms 2 and promises 8 to 10: each sentence that names a boundary of TEXTS. */
public final class EdgesOfTextsTest {
    private static final int LEAST = Integer.MIN_VALUE;
    private static final int MOST = Integer.MAX_VALUE;
    private static final String FIFTY = "1+1+1+1+1+1+1+1+1+1+1+1+1+1+1+1+1+1+1+1+1+1+1+1+11";

    public static void main(String[] args) {
        tapeOfFiftyBytes();
        manyOfEach();
        oneOfTheseAtMost();
        numbersOfOneToFourDigits();
        noBlanks();
        namesOfEachUse();
        fiveOpen();
        openOnesClose();
        intsThatWrap();
        cutAndTheRest();
        byZero();
        oneOrZero();
        allIsWorkedOut();
        faultOfEachPlace();
        faultOfTooEarlyAnEnd();
        emptyTape();
        lastsHeld();
        lastsWithoutText();
        errsHeld();
        errsWithoutText();
        feedLowestFirst();
        feedBeyond();
        feedFull();
        textInPlace();
        textBeyond();
        textFault();
        lawBeyond();
        lawOfAnyNumbers();
        Due.end();
    }

    private static void tapeOfFiftyBytes() {
        Edge.says("TEXTS are read from THE TAPE (bytes, at most 50)");
        ScrewLeft x = new ScrewLeft();
        Edge.is("bytes", FIFTY.length(), 50);
        Due.feed(x, FIFTY);
        Edge.due(x, 50, "count", 7);
        Edge.due(x, Due.FULL, "feed", 49L, 1);
        Edge.due(x, 1, "text", 0);
        Edge.due(x, 24 + 11, "law", 0, 0, 0, 0);
        Due.feed(x, FIFTY.substring(0, 49) + "x");
        Edge.due(x, -10 - 49, "text", 0);
        // each of these bytes says something of its own
        Edge.is("the fullest", Due.text(x, 0, "!s" + "+1".repeat(24)), 1);
        Edge.due(x, 25, "law", 0, 0, 0, 0);
        Edge.due(x, 24, "law", 0, 1, 0, 0);
    }

    private static void gives(int want, String text) {
        ScrewLeft x = new ScrewLeft();
        Edge.is("text of " + text, Due.text(x, 0, "50+(" + text + ")"), 1);
        Edge.is("law by " + text, x.law(0, 7, 5, 2), 50 + want);
    }

    private static void fault(int want, String text) {
        ScrewLeft x = new ScrewLeft();
        Edge.is("text of " + text, Due.text(x, 0, text), -10 - want);
        Edge.due(x, 0, "count", 7);
    }

    private static void manyOfEach() {
        Edge.says("T: A { | A }. A: B { & B }.");
        gives(1, "0|0|0|0|0|0|0|0|0|0|0|0|0|0|0|0|0|0|0|0|0|9");
        gives(1, "1&2&3&4&5&6&7&8&9&1&2&3&4&5&6&7&8&9&1&2&3&4");
        gives(0, "1&2&3&4&5&6&7&8&9&1&2&3&4&5&6&7&8&9&1&2&3&0");
        gives(1, "1|0&0");
        gives(1, "0&0|1");
        Edge.says("S: P { + P, - P }. P: Q { * Q, / Q, % Q }.");
        gives(-3, "9-1-2-3-1-2-1-2");
        gives(1, "1*1*1*1*1*1*1*1*1*1*1*1*1*1*1*1*1*1*1*1*1*1*1");
        // 72, 12, 5, 10, 3, 6, 6
        gives(6, "9*8/6%7*2/3*2%7");
        gives(3, "9-4/2*3");
    }

    private static void oneOfTheseAtMost() {
        Edge.says("B: S, or S < S, S = S, S > S.");
        gives(1, "1<2");
        gives(0, "2<2");
        gives(0, "3<2");
        gives(1, "2=2");
        gives(0, "2=3");
        gives(1, "3>2");
        gives(0, "2>2");
        gives(0, "1>2");
        gives(1, "(1<2)=(2<3)");
        gives(1, "0-1<0");
        fault(3, "1<2<3");
        fault(3, "1=2=3");
        fault(3, "1>2>3");
        fault(3, "1<2>3");
        fault(2, "1<=2");
    }

    private static void numbersOfOneToFourDigits() {
        Edge.says("a NUMBER of 1 to 4 digits");
        gives(0, "0");
        gives(9, "9");
        gives(9, "0009");
        gives(1, "9999=9998+1");
        fault(4, "10000");
        fault(4, "00000");
        fault(6, "1+12345");
        fault(0, "x");
        fault(2, "1+");
    }

    private static void noBlanks() {
        Edge.says("No blanks.");
        fault(0, " 1");
        fault(1, "1 ");
        fault(2, "1+ 1");
        fault(1, "1\t+1");
        fault(1, "1\n");
        fault(1, "1" + (char) 0);
        fault(1, "1" + (char) 160);
        fault(0, "" + (char) 255);
    }

    private static void namesOfEachUse() {
        Edge.says("NAMES s SCREWS, m m, t TIRED");
        gives(7, "s");
        gives(5, "m");
        gives(2, "t");
        for (String name : new String[] {"k", "S", "M", "T", "a", "z", "r", "n", "l", "u"}) {
            fault(0, name);
        }
        Edge.says("NAMES m m, t TIRED, k KIND");
        ScrewLeft x = new ScrewLeft();
        String[] texts = {"m=5", "t=2", "k=7"};
        for (String text : texts) {
            Edge.is(text, Due.text(x, 1, text), 1);
            Edge.due(x, 1, "law", 1, 5, 2, 7);
            Edge.due(x, 0, "law", 1, 6, 3, 8);
        }
        for (String name : new String[] {"s", "K", "j", "l"}) {
            Edge.is(name, Due.text(x, 1, name), -10);
        }
    }

    private static void fiveOpen() {
        Edge.says("At most 5 of ! and ( are open at once.");
        whole("!!!!!0", 1);
        whole("(((((7)))))", 7);
        whole("!(!(!7))", 0);
        whole("(!(!(0)))", 0);
        whole("!!!!(7)", 1);
        fault(5, "!!!!!!0");
        fault(5, "((((((7))))))");
        fault(5, "!(!(!(7)))");
        fault(5, "(((((!7)))))");
        fault(5, "!!!!!(7)");
    }

    /** What a whole TEXT gives, with 1 for what is held below. */
    private static void whole(String text, int want) {
        ScrewLeft x = new ScrewLeft();
        Edge.is("text of " + text, Due.text(x, 0, text), 1);
        Edge.is("law by " + text, x.law(0, 0, 0, 0), Math.max(1, want));
    }

    private static void openOnesClose() {
        Edge.says("are open at once");
        whole("!!!!!0+!!!!!0+(((((7)))))", 9);
        whole("(((((1)))))*(((((3)))))", 3);
        whole("((((!0))))+((((!0))))", 2);
        whole("((((!0+!0+!0))))", 3);
        whole("(((((1)+(1))+(1))+(1))+(1))", 5);
        whole("!!!!(1)&!!!!(1)", 1);
        fault(16, "!!!!!0+(((((7)+((7");
    }

    private static void intsThatWrap() {
        Edge.says("Ints that wrap");
        int square = 9999 * 9999;
        int wraps = (int) (9999L * 9999L * 9999L);
        ScrewLeft x = new ScrewLeft();
        Edge.is("text", Due.text(x, 0, "9999*9999*9999%97+1"), 1);
        Edge.due(x, Math.max(1, wraps % 97 + 1), "law", 0, 0, 0, 0);
        Edge.is("text", Due.text(x, 0, "50+(9999*9999*9999<9999*9999)"), 1);
        Edge.due(x, wraps < square ? 51 : 50, "law", 0, 0, 0, 0);
        Edge.is("text", Due.text(x, 0, "50+(s+1<s)"), 1);
        Edge.due(x, 51, "law", 0, MOST, 0, 0);
        Edge.due(x, 50, "law", 0, MOST - 1, 0, 0);
        Edge.is("text", Due.text(x, 0, "50+(s-1>s)"), 1);
        Edge.due(x, 51, "law", 0, LEAST, 0, 0);
        Edge.due(x, 50, "law", 0, LEAST + 1, 0, 0);
        Edge.is("text", Due.text(x, 0, "50+(s*2=0)"), 1);
        Edge.due(x, 51, "law", 0, LEAST, 0, 0);
        Edge.is("text", Due.text(x, 0, "50+(0-s=s)"), 1);
        Edge.due(x, 51, "law", 0, LEAST, 0, 0);
        Edge.due(x, 50, "law", 0, MOST, 0, 0);
        Edge.is("text", Due.text(x, 0, "s+50"), 1);
        Edge.due(x, 1, "law", 0, MOST, 0, 0);
        Edge.is("text", Due.text(x, 0, "s-50"), 1);
        Edge.due(x, 99, "law", 0, LEAST, 0, 0);
    }

    private static void cutAndTheRest() {
        Edge.says("/ cut, % the rest that it leaves");
        gives(3, "7/2");
        gives(-3, "(0-7)/2");
        gives(-3, "7/(0-2)");
        gives(3, "(0-7)/(0-2)");
        gives(1, "7%2");
        gives(-1, "(0-7)%2");
        gives(1, "7%(0-2)");
        gives(-1, "(0-7)%(0-2)");
        gives(0, "1/2");
        gives(0, "(0-1)/2");
        ScrewLeft x = new ScrewLeft();
        Due.text(x, 0, "50+(s/m=s)");
        Edge.due(x, 51, "law", 0, LEAST, -1, 0);
        Edge.due(x, 50, "law", 0, MOST, -1, 0);
        Due.text(x, 0, "50+s%m");
        Edge.due(x, 50, "law", 0, LEAST, -1, 0);
        Edge.due(x, 50 - 8, "law", 0, LEAST, 10, 0);
    }

    private static void byZero() {
        Edge.says("both by 0 are 0");
        gives(0, "7/0");
        gives(0, "7%0");
        gives(0, "0/0");
        gives(0, "0%0");
        gives(0, "(0-7)/(s-7)");
        gives(3, "7/0+3");
        gives(0, "7%0*3");
        ScrewLeft x = new ScrewLeft();
        Due.text(x, 0, "50+s/m+s%m");
        Edge.due(x, 50, "law", 0, LEAST, 0, 0);
        Edge.due(x, 50, "law", 0, MOST, 0, 0);
    }

    private static void oneOrZero() {
        Edge.says("| & < = > ! are 1 or 0, what is not 0 being true");
        gives(1, "7|0");
        gives(1, "0|(0-7)");
        gives(1, "7|9");
        gives(0, "0|0");
        gives(1, "(0-7)|0");
        gives(1, "7&(0-9)");
        gives(1, "(0-9)&7");
        gives(0, "7&0");
        gives(0, "0&7");
        gives(1, "1&2");
        gives(0, "!7");
        gives(0, "!(0-1)");
        gives(1, "!0");
        gives(1, "!!7");
        gives(2, "(2>1)+(1<2)");
        gives(1, "(7=7)*1");
    }

    private static void allIsWorkedOut() {
        Edge.says("all is worked out");
        gives(1, "1|7/0");
        gives(0, "0&7%0");
        gives(1, "7/0|1");
    }

    private static void faultOfEachPlace() {
        Edge.says("FAULT: the place of the first byte with which no TEXT goes on");
        String good = "!(1+2)*s<3&m|t";
        for (int i = 0; i < good.length(); i++) {
            fault(i, good.substring(0, i) + "?" + good.substring(i + 1));
            fault(i, good.substring(0, i) + "?");
        }
        for (int sign = 0; sign < 256; sign++) {
            if (good.indexOf(sign) < 0 && "=>-/%".indexOf(sign) < 0 && (sign < '0' || sign > '9')) {
                fault(0, (char) sign + "1");
                fault(1, "1" + (char) sign + "1");
            }
        }
        fault(14, good + ")");
        fault(14, good + "?");
        String[] signs = {"|", "&", "<", "=", ">", "+", "-", "*", "/", "%", ")"};
        for (String sign : signs) {
            fault(0, sign);
            fault(2, "1+" + sign);
            fault(1, "(" + sign);
            fault(1, "!" + sign);
        }
        for (String next : new String[] {"s", "!", "("}) {
            fault(1, "1" + next);
            fault(1, "s" + next);
            fault(3, "(1)" + next);
        }
        fault(1, "s1");
        fault(3, "(1)1");
        fault(1, "1)");
        fault(3, "(1))");
    }

    private static void faultOfTooEarlyAnEnd() {
        Edge.says("how many there are, if it ends too early");
        String[] early = {"", "!", "(", "1+", "1|", "1&", "1<", "1=", "1>", "1-", "1*", "1/", "1%", "(1", "((1)", "!!!!!",
            "(((((", "1+(2*", "(s<m", "!(1"};
        for (String text : early) {
            fault(text.length(), text);
        }
        fault(50, FIFTY.substring(0, 49) + "+");
        fault(50, "!" + FIFTY.substring(0, 48) + "(");
        fault(50, "(" + FIFTY.substring(0, 49));
    }

    private static void emptyTape() {
        Edge.says("THE TAPE, which is empty then");
        ScrewLeft x = new ScrewLeft();
        Edge.due(x, -10, "text", 0);
        Edge.due(x, -10, "text", 1);
        Due.feed(x, "7");
        Edge.due(x, 1, "text", 0);
        Edge.due(x, 0, "count", 7);
        Edge.due(x, -10, "text", 0);
        Edge.due(x, 7, "law", 0, 0, 0, 0);
        Edge.due(x, 1, "feed", 57L, 1);
        Edge.due(x, 1, "text", 0);
        Edge.due(x, 9, "law", 0, 0, 0, 0);
    }

    private static void lastsHeld() {
        Edge.says("held within 1 to 99; without a TEXT 1+s+t.");
        ScrewLeft x = new ScrewLeft();
        Due.text(x, 0, "s");
        int[][] held = {{LEAST, 1}, {-1, 1}, {0, 1}, {1, 1}, {2, 2}, {98, 98}, {99, 99}, {100, 99}, {MOST, 99}};
        for (int[] h : held) {
            Edge.due(x, h[1], "law", 0, h[0], 0, 0);
        }
    }

    private static void lastsWithoutText() {
        Edge.says("without a TEXT 1+s+t.");
        ScrewLeft x = new ScrewLeft();
        Edge.due(x, 1, "law", 0, 0, 9, 0);
        Edge.due(x, 19, "law", 0, 9, -7, 9);
        Edge.due(x, 99, "law", 0, 98, 0, 0);
        Edge.due(x, 99, "law", 0, 98, 0, 1);
        Edge.due(x, 1, "law", 0, -1, 0, 0);
        Edge.due(x, 1, "law", 0, MOST, 0, 0);
        Edge.due(x, 99, "law", 0, LEAST, 0, -2);
    }

    private static void errsHeld() {
        Edge.says("held within 0 to 1; without a TEXT m+t>9.");
        ScrewLeft x = new ScrewLeft();
        Due.text(x, 1, "m");
        int[][] held = {{LEAST, 0}, {-1, 0}, {0, 0}, {1, 1}, {2, 1}, {MOST, 1}};
        for (int[] h : held) {
            Edge.due(x, h[1], "law", 1, h[0], 0, 0);
        }
    }

    private static void errsWithoutText() {
        Edge.says("without a TEXT m+t>9.");
        ScrewLeft x = new ScrewLeft();
        Edge.due(x, 0, "law", 1, 9, 0, 6);
        Edge.due(x, 0, "law", 1, 0, 9, 6);
        Edge.due(x, 1, "law", 1, 9, 1, 0);
        Edge.due(x, 1, "law", 1, 1, 9, 0);
        Edge.due(x, 1, "law", 1, 10, 0, 0);
        Edge.due(x, 0, "law", 1, MOST, 1, 0);
        Edge.due(x, 1, "law", 1, LEAST, -1, 0);
    }

    private static void feedLowestFirst() {
        Edge.says("The n lowest bytes (1 .. 8) of a word, the lowest first, come to THE TAPE: how many there are.");
        ScrewLeft x = new ScrewLeft();
        Edge.due(x, 8, "feed", 0x39_2B_38_2B_37_2B_36_2BL, 8);
        Edge.due(x, -10, "text", 0);
        Edge.due(x, 1, "feed", 0x30_30_35L, 1);
        Edge.due(x, 1, "text", 0);
        Edge.due(x, 5, "law", 0, 0, 0, 0);
        Edge.due(x, 7, "feed", 0xFF_39_2B_38_2B_37_2B_36L, 7);
        Edge.due(x, 1, "text", 0);
        Edge.due(x, 30, "law", 0, 0, 0, 0);
        Edge.due(x, 8, "feed", 0x39_39_2B_38_2B_37_2B_36L, 8);
        Edge.due(x, 1, "text", 0);
        Edge.due(x, 99, "law", 0, 0, 0, 0);
        Edge.due(x, 8, "feed", -1L, 8);
        Edge.due(x, 16, "feed", Long.MIN_VALUE, 8);
        Edge.due(x, -10, "text", 0);
    }

    private static void feedBeyond() {
        Edge.says("come to THE TAPE: how many there are. BEYOND. FULL.");
        ScrewLeft x = new ScrewLeft();
        for (int n : new int[] {0, -1, 9, LEAST, MOST}) {
            Edge.due(x, Due.BEYOND, "feed", 49L, n);
        }
        Edge.due(x, 0, "count", 7);
        Due.feed(x, FIFTY);
        Edge.due(x, Due.BEYOND, "feed", 49L, 0);
        Edge.due(x, Due.BEYOND, "feed", 49L, 9);
        Edge.due(x, Due.FULL, "feed", 49L, 1);
        Edge.due(x, Due.FULL, "feed", 49L, 8);
    }

    private static void feedFull() {
        Edge.says("BEYOND. FULL.");
        for (int n = 1; n <= 8; n++) {
            ScrewLeft x = new ScrewLeft();
            Due.feed(x, FIFTY.substring(0, 51 - n));
            Edge.due(x, Due.FULL, "feed", 0x3131313131313131L, n);
            Edge.due(x, 51 - n, "count", 7);
            ScrewLeft y = new ScrewLeft();
            Due.feed(y, FIFTY.substring(0, 50 - n));
            Edge.due(y, 50, "feed", 0x3131313131313131L, n);
        }
    }

    private static void textInPlace() {
        Edge.says("is the TEXT of a USE (0, 1), in place of one ahead: 1.");
        ScrewLeft x = new ScrewLeft();
        Edge.is("text(0)", Due.text(x, 0, FIFTY), 1);
        Edge.is("text(0), a shorter one", Due.text(x, 0, "5"), 1);
        Edge.due(x, 5, "law", 0, 0, 0, 0);
        Edge.is("text(0), of signs", Due.text(x, 0, "!!5"), 1);
        Edge.is("text(0), without a sign", Due.text(x, 0, "5"), 1);
        Edge.due(x, 5, "law", 0, 0, 0, 0);
        Edge.is("text(1)", Due.text(x, 1, "1"), 1);
        Edge.due(x, 5, "law", 0, 0, 0, 0);
        Edge.due(x, 1, "law", 1, 0, 0, 0);
    }

    private static void textBeyond() {
        Edge.says("BEYOND (THE TAPE stays).");
        ScrewLeft x = new ScrewLeft();
        Due.feed(x, "5+2");
        for (int use : new int[] {-1, 2, LEAST, MOST}) {
            Edge.due(x, Due.BEYOND, "text", use);
            Edge.due(x, 3, "count", 7);
        }
        Edge.due(x, 1, "text", 0);
        Edge.due(x, 7, "law", 0, 0, 0, 0);
    }

    private static void textFault() {
        Edge.says("-10 less the FAULT (no ERROR; the one ahead stays; THE TAPE is empty, too).");
        ScrewLeft x = new ScrewLeft();
        Edge.is("text(0)", Due.text(x, 0, "5+2"), 1);
        Edge.is("text(0), FAULT at 0", Due.text(x, 0, "?"), -10);
        Edge.is("text(0), FAULT at 3", Due.text(x, 0, "9*9?"), -13);
        Edge.due(x, 0, "count", 7);
        Edge.is("text(0), FAULT at 50", Due.text(x, 0, FIFTY.substring(0, 49) + "+"), -60);
        Edge.due(x, 7, "law", 0, 0, 0, 0);
        for (int k = 1; k <= 5; k++) {
            Edge.due(x, 0, "told", k);
        }
        ScrewLeft y = new ScrewLeft();
        Edge.is("text(0), no one ahead", Due.text(y, 0, "5+"), -12);
        Edge.due(y, 4, "law", 0, 2, 0, 1);
        Edge.is("text(1), no one ahead", Due.text(y, 1, "1+"), -12);
        Edge.due(y, 0, "law", 1, 0, 0, 0);
    }

    private static void lawBeyond() {
        Edge.says("What a USE gives with its NAMES in order as a, b, c. BEYOND.");
        ScrewLeft x = new ScrewLeft();
        for (int use : new int[] {-1, 2, LEAST, MOST}) {
            Edge.due(x, Due.BEYOND, "law", use, 0, 0, 0);
        }
        Edge.due(x, 4, "told", 1);
    }

    private static void lawOfAnyNumbers() {
        Edge.says("with its NAMES in order as a, b, c");
        ScrewLeft x = new ScrewLeft();
        Due.text(x, 0, "50+(s<m)+2*(m<t)+4*(t<s)");
        Edge.due(x, 53, "law", 0, LEAST, 0, MOST);
        Edge.due(x, 54, "law", 0, MOST, 0, LEAST);
        Edge.due(x, 50, "law", 0, MOST, MOST, MOST);
        Edge.due(x, 50, "law", 0, LEAST, LEAST, LEAST);
    }
}
