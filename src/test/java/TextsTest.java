/** Promises 8 to 10: feed, text, law. */
public final class TextsTest {
    public static void main(String[] args) {
        feed();
        feedErrors();
        text();
        faults();
        faultsLeaveTheTextAhead();
        lawWithoutTexts();
        lawByTexts();
        lawErrors();
        whatStepsTakeFromTexts();
        Due.end();
    }

    private static void feed() {
        ScrewLeft x = new ScrewLeft();
        Due.is("feed, two of three bytes", x.feed(0x782B74L, 2), 2);
        Due.is("feed, one more", x.feed(0x31L, 1), 3);
        Due.is("t+1 is a TEXT, the lowest byte first", x.text(0), 1);
        Due.is("law by t+1", x.law(0, 0, 0, 6), 7);
        Due.is("feed eight", x.feed(-1L, 8), 8);
        Due.is("count(7)", x.count(7), 8);
        Due.is("byte 255 is no TEXT", x.text(0), -10);
        Due.is("no sign of a byte stays in the next", x.feed(0x31303030FFL >>> 8, 4), 4);
        Due.is("0001 is a TEXT", x.text(0), 1);
    }

    private static void feedErrors() {
        ScrewLeft x = new ScrewLeft();
        int[] wrong = {0, -1, 9, Integer.MAX_VALUE, Integer.MIN_VALUE};
        for (int n : wrong) {
            Due.is("feed(1, " + n + ")", x.feed(1L, n), Due.BEYOND);
        }
        for (int i = 1; i <= 6; i++) {
            Due.is("feed eight", x.feed(0x2B312B312B312B31L, 8), 8 * i);
        }
        Due.is("three more are too many", x.feed(0L, 3), Due.FULL);
        Due.is("count(7) is as it was", x.count(7), 48);
        Due.is("two more", x.feed(0x312BL >>> 8, 2), 50);
        Due.is("one more is too many", x.feed(0L, 1), Due.FULL);
        Due.is("BEYOND is asked ahead of FULL", x.feed(0L, 9), Due.BEYOND);
        Due.is("told(1)", x.told(1), 6);
        Due.is("told(4)", x.told(4), 2);
    }

    private static void text() {
        ScrewLeft x = new ScrewLeft();
        Due.is("s", Due.text(x, 0, "s"), 1);
        Due.is("THE TAPE is empty", x.count(7), 0);
        Due.is("in place of one ahead", Due.text(x, 0, "m"), 1);
        Due.is("law by m", x.law(0, 4, 5, 6), 5);
        Due.is("the other USE has none", x.law(1, 4, 5, 6), 0);
        Due.feed(x, "s+1");
        Due.is("text(2)", x.text(2), Due.BEYOND);
        Due.is("text(-1)", x.text(-1), Due.BEYOND);
        Due.is("THE TAPE stays", x.count(7), 3);
        Due.is("then it is a TEXT", x.text(0), 1);
        String longest = "((((1+1)*1)+1)*1)+1+1+1+1+1+1+1+1+1+1+1+1+1+1+1+12";
        Due.is("bytes of the longest", longest.length(), 50);
        Due.is("the longest", Due.text(x, 0, longest), 1);
        Due.is("law by the longest", x.law(0, 0, 0, 0), 3 + 1 + 14 + 12);
        String fullest = "!0+1+1+1+1+1+1+1+1+1+1+1+1+1+1+1+1+1+1+1+1+1+1+1+1";
        Due.is("bytes of the fullest", fullest.length(), 50);
        Due.is("the fullest", Due.text(x, 0, fullest), 1);
        Due.is("law by the fullest", x.law(0, 0, 0, 0), 25);
        Due.text(x, 0, "!s");
        Due.is("law by !s", x.law(0, 7, 0, 0), 1);
        Due.text(x, 1, "!m");
        Due.is("law by !m", x.law(1, 0, 0, 0), 1);
    }

    private static void fault(String text, int use, int place) {
        ScrewLeft x = new ScrewLeft();
        Due.is("FAULT of " + text + " by " + use, Due.text(x, use, text), place < 0 ? 1 : -10 - place);
        Due.is("THE TAPE behind " + text, x.count(7), 0);
    }

    private static void faults() {
        String[] good = {"1", "9999", "0000", "s", "m", "t", "!!!!!1", "(((((1)))))", "!(!(!1))", "1<2&3=4|5>6",
            "1|2|3", "1&2&3", "1-2-3", "1/2*3%4", "(1<2)<3", "!1+!2", "!s*!t", "(s)(".substring(0, 3)};
        for (String text : good) {
            fault(text, 0, -1);
        }
        fault("", 0, 0);
        fault("k", 0, 0);
        fault("s", 1, 0);
        fault("k+m*t", 1, -1);
        fault("1+k", 0, 2);
        fault("12345", 0, 4);
        fault("(12345)", 0, 5);
        fault("1<2<3", 0, 3);
        fault("1<2=3", 0, 3);
        fault("1+2>3&1=1=1", 0, 9);
        fault("!!!!!!1", 0, 5);
        fault("((((((1", 0, 5);
        fault("!(!(!(1", 0, 5);
        fault("(((((!1", 0, 5);
        fault("(((((1", 0, 6);
        fault("(((((1)))))(1)", 0, 11);
        fault("1)", 0, 1);
        fault("()", 0, 1);
        fault("(1", 0, 2);
        fault("1+", 0, 2);
        fault("1++2", 0, 2);
        fault("-1", 0, 0);
        fault("1 +2", 0, 1);
        fault("s1", 0, 1);
        fault("1s", 0, 1);
        fault("st", 0, 1);
        fault("1!2", 0, 1);
        fault("!", 0, 1);
        fault("1(", 0, 1);
        fault("1&&2", 0, 2);
        fault("1<>2", 0, 2);
        fault("1**2", 0, 2);
        fault("S", 0, 0);
        fault("1%(2|", 0, 5);
    }

    private static void faultsLeaveTheTextAhead() {
        ScrewLeft x = new ScrewLeft();
        Due.text(x, 0, "7*7+s");
        Due.text(x, 1, "k");
        Due.is("a FAULT", Due.text(x, 0, "1+2+3+4+"), -18);
        Due.is("a FAULT of the other", Due.text(x, 1, "m+s"), -12);
        Due.is("the TEXT ahead stays", x.law(0, 3, 0, 0), 52);
        Due.is("that of the other, too", x.law(1, 0, 0, 1), 1);
        Due.is("a FAULT is no ERROR", x.told(1) + x.told(2) + x.told(3) + x.told(4) + x.told(5), 0);
    }

    private static void lawWithoutTexts() {
        ScrewLeft x = new ScrewLeft();
        Due.is("law(0, 9, 5, 9)", x.law(0, 9, 5, 9), 19);
        Due.is("law(0, 99, 0, 0)", x.law(0, 99, 0, 0), 99);
        Due.is("law(0, -5, 0, 0)", x.law(0, -5, 0, 0), 1);
        Due.is("1+s+t wraps", x.law(0, Integer.MAX_VALUE, 0, 0), 1);
        Due.is("law(1, 5, 4, 9)", x.law(1, 5, 4, 9), 0);
        Due.is("law(1, 5, 5, 0)", x.law(1, 5, 5, 0), 1);
        Due.is("m+t wraps", x.law(1, Integer.MAX_VALUE, 1, 0), 0);
    }

    /** What text gives with s, m, t as 7, 5, 2, and 50 more, so that little is held. */
    private static void gives(String text, int want) {
        ScrewLeft x = new ScrewLeft();
        Due.is(text, Due.text(x, 0, "50+(" + text + ")"), 1);
        Due.is("law by " + text, x.law(0, 7, 5, 2), 50 + want);
    }

    private static void lawByTexts() {
        gives("s*m-t", 33);
        gives("s-m-t", 0);
        gives("s-(m-t)", 4);
        gives("s/t*t", 6);
        gives("s*t/m", 2);
        gives("s%m*t", 4);
        gives("t-s/m", 1);
        gives("(t-s)/t", -2);
        gives("(t-s)%t", -1);
        gives("s/0", 0);
        gives("s%0", 0);
        gives("s/(t-2)", 0);
        gives("!s", 0);
        gives("!!s", 1);
        gives("!0", 1);
        gives("!0+1", 2);
        gives("s<m", 0);
        gives("m<s", 1);
        gives("s>m", 1);
        gives("s=m+t", 1);
        gives("s=m", 0);
        gives("s&m", 1);
        gives("s&0", 0);
        gives("0|t", 1);
        gives("0|0", 0);
        gives("1|0&0", 1);
        gives("0&0|1", 1);
        gives("(t-s)|0", 1);
        gives("m<s&t<m|0", 1);
        gives("(s>m)+(m>t)+(s=7)", 3);
        ScrewLeft x = new ScrewLeft();
        Due.text(x, 0, "9999*9999*9999*9999*9999%97");
        int wraps = 9999 * 9999 * 9999 * 9999 * 9999 % 97;
        Due.is("ints that wrap", x.law(0, 0, 0, 0), Math.max(1, wraps));
        Due.text(x, 0, "s/m=s");
        Due.is("the least by -1", x.law(0, Integer.MIN_VALUE, -1, 0), 1);
        Due.text(x, 0, "s%m+7");
        Due.is("its rest", x.law(0, Integer.MIN_VALUE, -1, 0), 7);
        Due.text(x, 0, "s");
        int[][] held = {{0, 1}, {1, 1}, {-9, 1}, {99, 99}, {100, 99}, {Integer.MAX_VALUE, 99}, {42, 42}};
        for (int[] h : held) {
            Due.is("LASTS held, " + h[0], x.law(0, h[0], 0, 0), h[1]);
        }
        Due.text(x, 1, "m*t-k");
        int[][] errs = {{0, 0, 0, 0}, {1, 1, 0, 1}, {1, 1, 2, 0}, {3, 3, 0, 1}, {2, 3, 6, 0}};
        for (int[] e : errs) {
            Due.is("ERRS held", x.law(1, e[0], e[1], e[2]), e[3]);
        }
    }

    private static void lawErrors() {
        ScrewLeft x = new ScrewLeft();
        Due.is("law(-1, ..)", x.law(-1, 0, 0, 0), Due.BEYOND);
        Due.is("law(2, ..)", x.law(2, 0, 0, 0), Due.BEYOND);
        Due.is("told(1)", x.told(1), 2);
    }

    private static void whatStepsTakeFromTexts() {
        ScrewLeft x = new ScrewLeft();
        x.step(37, 8, 0);
        x.step(24, 1, 0);
        Due.text(x, 0, "s*10+m-t*3");
        Due.text(x, 1, "k=2&t>1");
        x.set(2, 45);
        Due.is("LASTS of HELD", x.ofStep(0, 6), 2 * 84);
        Due.is("LASTS of GLUED", x.ofStep(1, 6), 13);
        Due.is("TIRED is 1: right", x.does(1), 0);
        Due.is("MINUTE", x.count(5), 58);
        x.become(1, 14);
        x.undo(1);
        x.become(1, 24);
        x.set(2, 60);
        Due.is("TIRED is 2: WRONG", x.does(1), 1);
        Due.is("of another KIND: right", x.does(0), 0);
    }
}
