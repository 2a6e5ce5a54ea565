/** Promises 1 to 7: the new object; step, ofStep, change, set, become, as. */
public final class StepsTest {
    public static void main(String[] args) {
        newObject();
        step();
        stepErrors();
        ofStepAsMade();
        lastsAndBackByKinds();
        lastsByTiredAndHands();
        mayBeDone();
        mayBeUndone();
        change();
        changeErrors();
        set();
        become();
        as();
        Due.end();
    }

    private static void newObject() {
        ScrewLeft x = new ScrewLeft();
        int[] want = {0, 0, 0, 50, 1, 0, 0, 0, 0, 0, 1};
        for (int what = 0; what < want.length; what++) {
            Due.is("new: count(" + what + ")", x.count(what), want[what]);
        }
        for (int k = 1; k <= 5; k++) {
            Due.is("new: told(" + k + ")", x.told(k), 0);
        }
        for (int sheet = 0; sheet < 4; sheet++) {
            Due.is("new: judge(" + sheet + ")", x.judge(sheet), Due.NONE);
        }
        Due.is("new: law(0, 2, 3, 4)", x.law(0, 2, 3, 4), 7);
        Due.is("new: law(1, 2, 3, 4)", x.law(1, 2, 3, 4), 0);
        Due.is("new: restore()", x.restore(), Due.NONE);
        Due.is("new: trace(0)", x.trace(0), Due.NONE);
        Due.is("new: next(0)", x.next(0), 0);
        Due.is("new: next(1)", x.next(1), 0);
        Due.is("new: ofStep(0, 0)", x.ofStep(0, 0), Due.BEYOND);
    }

    private static void step() {
        ScrewLeft x = new ScrewLeft();
        Due.is("step(0, 0, 0)", x.step(0, 0, 0), 0);
        Due.is("step(69, 9, 1)", x.step(69, 9, 1), 1);
        for (int i = 2; i < 8; i++) {
            Due.is("step that needs all", x.step(13, 1, (1 << i) - 1), i);
        }
        Due.is("count(0)", x.count(0), 8);
        Due.is("the ninth", x.step(0, 0, 0), Due.FULL);
        Due.is("the ninth, that needs eight", x.step(0, 0, 255), Due.FULL);
        Due.is("count(0) then", x.count(0), 8);
        Due.is("told(4)", x.told(4), 2);
    }

    private static void stepErrors() {
        ScrewLeft x = new ScrewLeft();
        x.step(0, 1, 0);
        int[][] wrong = {{-1, 0, 0}, {70, 0, 0}, {0, -1, 0}, {0, 10, 0}, {0, 0, -1}, {0, 0, 2},
            {0, 0, 3}, {Integer.MAX_VALUE, 0, 0}, {0, Integer.MIN_VALUE, 0}, {0, 0, Integer.MIN_VALUE}};
        String before = Due.stateOf(x);
        for (int[] w : wrong) {
            Due.is("step(" + w[0] + ", " + w[1] + ", " + w[2] + ")", x.step(w[0], w[1], w[2]), Due.BEYOND);
        }
        Due.holds("a refused step changes nothing", before.equals(Due.stateOf(x)));
        for (int i = 1; i < 8; i++) {
            x.step(0, 0, 0);
        }
        Due.is("BEYOND is asked ahead of FULL", x.step(70, 0, 0), Due.BEYOND);
        Due.is("BEYOND of needs is asked ahead of FULL", x.step(0, 0, 256), Due.BEYOND);
    }

    private static void ofStepAsMade() {
        ScrewLeft x = new ScrewLeft();
        x.step(7, 3, 0);
        x.step(58, 9, 1);
        int[] want = {5, 8, 9, 1, 0, 0};
        for (int what = 0; what < want.length; what++) {
            Due.is("ofStep(1, " + what + ")", x.ofStep(1, what), want[what]);
        }
        Due.is("ofStep(0, 0)", x.ofStep(0, 0), 0);
        Due.is("ofStep(0, 1)", x.ofStep(0, 1), 7);
        int[][] wrong = {{-1, 0}, {2, 0}, {8, 0}, {0, -1}, {0, 10}, {Integer.MIN_VALUE, 0}, {Integer.MAX_VALUE, 0}};
        for (int[] w : wrong) {
            Due.is("ofStep(" + w[0] + ", " + w[1] + ")", x.ofStep(w[0], w[1]), Due.BEYOND);
        }
    }

    /** m is 4, SCREWS 2, so that v is 3 without a TEXT. */
    private static void lastsAndBackByKinds() {
        ScrewLeft x = Due.oneOfEach();
        int[] lasts = {3, 4, 5, 6, 5, 7, 10};
        int[] back = {1, 2, 2, 6, 2, 3, 10};
        for (int kind = 0; kind < 7; kind++) {
            Due.is("LASTS of KIND " + kind, x.ofStep(kind, 6), lasts[kind]);
            Due.is("BACK of KIND " + kind, x.ofStep(kind, 7), back[kind]);
        }
        x.set(0, 2);
        int[] byTwo = {3, 4, 5, 3, 5, 7, 7};
        int[] backByTwo = {1, 2, 2, 3, 2, 3, 7};
        for (int kind = 0; kind < 7; kind++) {
            Due.is("LASTS by two of KIND " + kind, x.ofStep(kind, 6), byTwo[kind]);
            Due.is("BACK by two of KIND " + kind, x.ofStep(kind, 7), backByTwo[kind]);
        }
    }

    private static void lastsByTiredAndHands() {
        ScrewLeft x = new ScrewLeft();
        x.step(30, 5, 0);
        int[] minutes = {0, 29, 30, 59, 60, 269, 270, 299, 300, 99999};
        int[] lasts = {12, 12, 14, 14, 16, 28, 30, 30, 30, 30};
        for (int i = 0; i < minutes.length; i++) {
            x.set(2, minutes[i]);
            Due.is("LASTS at " + minutes[i], x.ofStep(0, 6), lasts[i]);
        }
        for (int m = 0; m < 10; m++) {
            ScrewLeft y = new ScrewLeft();
            y.step(40 + m, 0, 0);
            Due.is("ALIKE with m " + m, y.ofStep(0, 6), 2 + m % 3);
        }
    }

    private static void mayBeDone() {
        ScrewLeft x = new ScrewLeft();
        x.step(0, 5, 0);
        x.step(0, 5, 1);
        x.step(60, 0, 0);
        Due.is("one that needs nothing", x.ofStep(0, 8), 1);
        Due.is("one that needs another", x.ofStep(1, 8), 0);
        Due.is("CARRIED by one", x.ofStep(2, 8), 0);
        x.set(0, 2);
        Due.is("CARRIED by two", x.ofStep(2, 8), 1);
        x.set(1, 4);
        Due.is("a bag with too few", x.ofStep(0, 8), 0);
        x.set(1, 5);
        Due.is("a bag with enough", x.ofStep(0, 8), 1);
        x.set(2, 99999);
        Due.is("at the last minute", x.ofStep(0, 8), 1);
        x.set(2, 0);
        x.does(0);
        Due.is("one that is done", x.ofStep(0, 8), 0);
        Due.is("what it needs is done, the bag is empty", x.ofStep(1, 8), 0);
        x.set(1, 50);
        Due.is("what it needs is done", x.ofStep(1, 8), 1);
    }

    private static void mayBeUndone() {
        ScrewLeft x = Due.oneOfEach();
        x.set(0, 2);
        for (int kind = 0; kind < 7; kind++) {
            Due.is("open, of KIND " + kind, x.ofStep(kind, 9), 0);
            x.does(kind);
            Due.is("done, of KIND " + kind, x.ofStep(kind, 9), kind == 2 || kind == 5 ? 0 : 1);
        }
        ScrewLeft y = new ScrewLeft();
        y.step(0, 0, 0);
        y.step(0, 0, 1);
        y.does(0);
        Due.is("needed by one that is open", y.ofStep(0, 9), 1);
        y.does(1);
        Due.is("needed by one that is done", y.ofStep(0, 9), 0);
        Due.is("the one that needs it", y.ofStep(1, 9), 1);
    }

    private static void change() {
        ScrewLeft x = new ScrewLeft();
        x.step(0, 3, 0);
        x.step(10, 4, 1);
        x.step(20, 5, 2);
        Due.is("change(0, 0, 9)", x.change(0, 0, 9), 3);
        Due.is("change(0, 0, 0)", x.change(0, 0, 0), 9);
        Due.is("SCREWS then", x.ofStep(0, 2), 0);
        Due.is("change(2, 1, 3)", x.change(2, 1, 3), 2);
        Due.is("change(2, 1, 0)", x.change(2, 1, 0), 3);
        Due.is("NEEDS then", x.ofStep(2, 3), 0);
        Due.is("change(0, 1, 0)", x.change(0, 1, 0), 0);
        x.does(0);
        Due.is("change(0, 2, 1)", x.change(0, 2, 1), 0);
        Due.is("WRONG then", x.ofStep(0, 5), 1);
        Due.is("count(2) then", x.count(2), 1);
        Due.is("change(0, 2, 1) again", x.change(0, 2, 1), 1);
        Due.is("change(0, 2, 0)", x.change(0, 2, 0), 1);
        Due.is("WRONG no more", x.ofStep(0, 5), 0);
        Due.is("the bag is as it was", x.count(3), 50);
    }

    private static void changeErrors() {
        ScrewLeft x = new ScrewLeft();
        x.step(0, 3, 0);
        x.step(10, 4, 1);
        x.does(0);
        String before = Due.stateOf(x);
        int[][] wrong = {{-1, 0, 0}, {2, 0, 0}, {0, -1, 0}, {0, 3, 0}, {0, 0, -1}, {0, 0, 10}, {0, 1, 1},
            {1, 1, 2}, {1, 1, -1}, {0, 2, 2}, {0, 2, -1}, {1, 2, 2}, {2, 2, 1}, {99, 1, 0}};
        for (int[] w : wrong) {
            Due.is("change(" + w[0] + ", " + w[1] + ", " + w[2] + ")", x.change(w[0], w[1], w[2]), Due.BEYOND);
        }
        Due.is("WRONG of one that is open", x.change(1, 2, 1), Due.STATE);
        Due.is("right of one that is open", x.change(1, 2, 0), Due.STATE);
        Due.holds("a refused change changes nothing", before.equals(Due.stateOf(x)));
        Due.is("told(1)", x.told(1), 14);
        Due.is("told(3)", x.told(3), 2);
    }

    private static void set() {
        ScrewLeft x = new ScrewLeft();
        Due.is("set(0, 2)", x.set(0, 2), 1);
        Due.is("set(0, 1)", x.set(0, 1), 2);
        Due.is("set(1, 999)", x.set(1, 999), 50);
        Due.is("set(1, 0)", x.set(1, 0), 999);
        Due.is("set(2, 99999)", x.set(2, 99999), 0);
        Due.is("set(2, 0)", x.set(2, 0), 99999);
        x.set(2, 89);
        Due.is("TIRED", x.count(6), 2);
        String before = Due.stateOf(x);
        int[][] wrong = {{0, 0}, {0, 3}, {1, -1}, {1, 1000}, {2, -1}, {2, 100000}, {-1, 1}, {3, 1}};
        for (int[] w : wrong) {
            Due.is("set(" + w[0] + ", " + w[1] + ")", x.set(w[0], w[1]), Due.BEYOND);
        }
        Due.holds("a refused set changes nothing", before.equals(Due.stateOf(x)));
    }

    private static void become() {
        ScrewLeft x = new ScrewLeft();
        x.step(25, 6, 0);
        x.does(0);
        Due.is("become(0, 69)", x.become(0, 69), 2);
        Due.is("KIND then", x.ofStep(0, 0), 6);
        Due.is("m then", x.ofStep(0, 1), 9);
        Due.is("SCREWS then", x.ofStep(0, 2), 6);
        Due.is("DONE then", x.ofStep(0, 4), 1);
        Due.is("become(0, 0)", x.become(0, 0), 6);
        Due.is("m is 0", x.ofStep(0, 1), 0);
        int[][] wrong = {{0, -1}, {0, 70}, {1, 0}, {-1, 0}};
        for (int[] w : wrong) {
            Due.is("become(" + w[0] + ", " + w[1] + ")", x.become(w[0], w[1]), Due.BEYOND);
        }
        Due.is("KIND is as it was", x.ofStep(0, 0), 0);
    }

    private static void as() {
        String[] is = {"0", "01", "02", "03", "014", "025", "036"};
        ScrewLeft x = Due.oneOfEach();
        for (int kind = 0; kind < 7; kind++) {
            for (int other = 0; other < 7; other++) {
                boolean good = is[kind].indexOf('0' + other) >= 0;
                Due.is("as(" + kind + ", " + other + ")", x.as(kind, other), good ? 4 : Due.KIND);
            }
        }
        Due.is("as(0, -1)", x.as(0, -1), Due.BEYOND);
        Due.is("as(0, 7)", x.as(0, 7), Due.BEYOND);
        Due.is("as(7, 0)", x.as(7, 0), Due.BEYOND);
        Due.is("as(-1, 9)", x.as(-1, 9), Due.BEYOND);
        Due.is("told(5)", x.told(5), 49 - 16);
    }
}
