/** Promises 32 to 37: each sentence that names a boundary of IMAGES, numbers that wait, and what is told. */
public final class EdgesOfImagesTest {
    private static final int LEAST = Integer.MIN_VALUE;
    private static final int MOST = Integer.MAX_VALUE;

    public static void main(String[] args) {
        atMostFiveHundredTwelveCalls();
        imageHowOften();
        imageOfNothing();
        imageOfFullThings();
        imageButForThese();
        restoreNone();
        restoreStays();
        tellFull();
        tellAnyNumber();
        checkNoneWaits();
        checkNoneWaitsThen();
        checkWhereNoneMay();
        checkFirstThatIsNotSo();
        checkOfTwenty();
        checkLeastThatMay();
        checkBeyondTheLastMinute();
        countBeyond();
        countFullThings();
        countAnyZ();
        toldEachError();
        toldBeyond();
        Due.end();
    }

    private static void atMostFiveHundredTwelveCalls() {
        Edge.says("An object is used for at most 512 calls after it has been made");
        ScrewLeft images = new ScrewLeft();
        ScrewLeft errors = new ScrewLeft();
        for (int i = 1; i <= 511; i++) {
            images.image();
            errors.trace(0);
        }
        Edge.due(images, 512, "image");
        Edge.due(errors, 511, "told", 2);
    }

    private static void imageHowOften() {
        Edge.says("is kept as an IMAGE, in place of one ahead: how often that was done.");
        ScrewLeft x = new ScrewLeft();
        for (int i = 1; i <= 200; i++) {
            x.set(2, i);
            Edge.due(x, i, "image");
        }
        x.set(2, 7);
        Edge.due(x, 200, "restore");
        Edge.due(x, 201, "image");
    }

    private static void imageOfNothing() {
        Edge.says("All is as the IMAGE has it, which stays: MINUTE.");
        ScrewLeft x = new ScrewLeft();
        x.image();
        for (int i = 0; i < 8; i++) {
            x.step(69, 9, 0);
        }
        x.set(0, 2);
        x.set(1, 999);
        Edge.does(x, 0, 1);
        Due.text(x, 0, "7");
        Due.text(x, 1, "1");
        Due.feed(x, "1+1");
        x.tell(5);
        x.seed(-4);
        Edge.due(x, 0, "restore");
        ScrewLeft y = new ScrewLeft();
        y.image();
        Edge.holds("it is as a new one with an IMAGE", Probe.of(x).equals(Probe.of(y)));
    }

    private static void fillAll(ScrewLeft x) {
        for (int i = 0; i < 8; i++) {
            x.step(9 * i + 1, 9 - i, (1 << i) - 1);
        }
        x.set(0, 2);
        x.set(1, 999);
        Edge.does(x, 0, 1, 2, 3, 4, 5, 6, 7);
        x.set(2, 99999);
        String fifty = "((((s+1)*1)+1)*1)+1+1+1+1+1+1+1+1+1+1+1+1+1+1+1+12";
        Due.text(x, 0, fifty);
        Due.text(x, 1, fifty.replace('s', 'k') + "");
        Due.feed(x, fifty);
        for (int i = 0; i < 20; i++) {
            x.tell(MOST - i);
        }
        x.seed(LEAST);
    }

    private static void imageOfFullThings() {
        Edge.says("All is as the IMAGE has it");
        ScrewLeft x = new ScrewLeft();
        fillAll(x);
        x.image();
        for (int i = 0; i < 8; i++) {
            x.change(i, 0, 0);
            x.become(i, 0);
        }
        for (int i = 7; i >= 0; i--) {
            x.change(i, 1, 0);
            x.change(i, 2, 0);
        }
        x.check();
        x.text(0);
        Due.text(x, 0, "1");
        Due.text(x, 1, "0");
        x.set(0, 1);
        x.set(1, 1);
        x.set(2, 1);
        x.undo(0);
        x.seed(1);
        Edge.due(x, 99999, "restore");
        Edge.due(x, 50, "count", 7);
        Edge.due(x, 20, "count", 8);
        ScrewLeft y = new ScrewLeft();
        fillAll(y);
        y.image();
        Edge.holds("it is as it was filled", Probe.of(x).equals(Probe.of(y)));
    }

    private static void imageButForThese() {
        Edge.says("All (but SHEETS, THE TRACE, what told() tells, and how often this was done) is kept");
        ScrewLeft x = Edge.with(0, 0);
        Edge.fill(x, 0, 8, 1, 2, 3);
        x.voice(0, 0, 0);
        x.image();
        x.sheet(0, 16, 1);
        x.put(0, 0, 7);
        x.sheet(3, 8, 0);
        x.voice(0, 1, 0);
        x.does(9);
        x.restore();
        Edge.due(x, 1, "screws", 0);
        Edge.due(x, 7, "ofStep", 0, 2);
        Edge.due(x, 0, "screws", 3);
        Edge.due(x, 2, "count", 9);
        Edge.due(x, 11, "trace", 0);
        Edge.due(x, 1, "told", 1);
        Edge.due(x, 2, "image");
    }

    private static void restoreNone() {
        Edge.says("MINUTE. NONE: there is none.");
        ScrewLeft x = Edge.with(0);
        Edge.due(x, Due.NONE, "restore");
        Edge.due(x, Due.NONE, "restore");
        Edge.due(x, 1, "count", 0);
        x.image();
        Edge.due(x, 0, "restore");
        Edge.due(x, 2, "told", 2);
    }

    private static void restoreStays() {
        Edge.says("which stays: MINUTE.");
        ScrewLeft x = Edge.with(0);
        Due.feed(x, "7");
        x.tell(3);
        x.set(2, 99999);
        x.image();
        for (int i = 0; i < 3; i++) {
            Edge.due(x, 99999, "restore");
            Edge.due(x, 1, "text", 0);
            Edge.due(x, 1, "check");
            x.step(0, 0, 0);
            x.change(0, 0, 9);
            x.set(2, 4);
            x.does(0);
            x.seed(5);
        }
        x.restore();
        Edge.due(x, 1, "count", 0);
        Edge.due(x, 0, "count", 1);
        Edge.due(x, 2, "ofStep", 0, 2);
        Edge.due(x, 1, "count", 10);
        Edge.due(x, 21, "law", 0, 11, 0, 9);
    }

    private static void tellFull() {
        Edge.says("One more number waits: how many. FULL: 20 wait.");
        ScrewLeft x = new ScrewLeft();
        for (int i = 1; i <= 20; i++) {
            Edge.due(x, i, "tell", 0);
        }
        Edge.due(x, Due.FULL, "tell", 0);
        Edge.due(x, Due.FULL, "tell", 5);
        Edge.due(x, 20, "count", 8);
        x.check();
        Edge.due(x, 1, "tell", 0);
    }

    private static void tellAnyNumber() {
        Edge.says("One more number waits: how many.");
        for (int v : new int[] {LEAST, -1, 0, 100000, MOST, Due.BEYOND}) {
            ScrewLeft x = Edge.with(0);
            Edge.due(x, 1, "tell", v);
            Edge.due(x, 1, "check");
            Edge.due(x, 0, "told", 1);
        }
    }

    private static void checkNoneWaits() {
        Edge.says("The numbers that wait (none do then) are MINUTE behind 1, 2, .. STEPS more by numbers");
        Edge.due(new ScrewLeft(), 0, "check");
        Edge.due(Edge.with(0), 0, "check");
        ScrewLeft x = Edge.eight();
        Edge.does(x, 0, 1, 2, 3, 4, 5, 6, 7);
        Edge.due(x, 0, "check");
    }

    private static void checkNoneWaitsThen() {
        Edge.says("(none do then)");
        ScrewLeft x = Edge.with(0, 0);
        x.tell(3);
        x.tell(7);
        x.tell(9);
        Edge.due(x, 2, "check");
        Edge.due(x, 0, "count", 8);
        Edge.due(x, 0, "check");
        x.tell(3);
        x.tell(6);
        Edge.due(x, 0, "check");
        Edge.due(x, 0, "count", 8);
        Edge.due(x, 0, "count", 1);
        Edge.due(x, 0, "count", 5);
    }

    private static void checkWhereNoneMay() {
        Edge.says("none is so, where none MAY");
        ScrewLeft none = new ScrewLeft();
        none.tell(0);
        Edge.due(none, 1, "check");
        ScrewLeft x = Edge.with(0, 60);
        x.tell(3);
        x.tell(3);
        Edge.due(x, 2, "check");
        x.tell(3);
        x.tell(9);
        Edge.due(x, 2, "check");
        x.set(0, 2);
        x.tell(3);
        x.tell(6);
        Edge.due(x, 0, "check");
        x.set(1, 3);
        x.tell(3);
        x.tell(6);
        Edge.due(x, 2, "check");
        x.set(1, 1);
        x.tell(0);
        Edge.due(x, 1, "check");
    }

    private static void checkFirstThatIsNotSo() {
        Edge.says("0; else 1 and the place (from 0) of the first that isn't so.");
        for (int place = 0; place < 8; place++) {
            for (int off : new int[] {-1, 1, LEAST, MOST / 2}) {
                ScrewLeft x = Edge.eight();
                for (int i = 0; i < 8; i++) {
                    x.tell(3 * i + 3 + (i == place ? off : 0));
                }
                Edge.due(x, 1 + place, "check");
                for (int i = 0; i < 8; i++) {
                    x.tell(3 * i + 3 + (i >= place ? off : 0));
                }
                Edge.due(x, 1 + place, "check");
            }
        }
    }

    private static void checkOfTwenty() {
        Edge.says("are MINUTE behind 1, 2, .. STEPS more by numbers");
        ScrewLeft x = Edge.eight();
        for (int i = 0; i < 8; i++) {
            x.tell(3 * i + 3);
        }
        Edge.due(x, 0, "check");
        for (int i = 0; i < 20; i++) {
            x.tell(Math.min(24, 3 * i + 3));
        }
        Edge.due(x, 9, "check");
    }

    private static void checkLeastThatMay() {
        Edge.says("(each time the least that MAY BE DONE;");
        ScrewLeft x = Edge.with(60, 0, 30, 0);
        x.change(2, 0, 5);
        x.does(1);
        // 0 lacks a hand: 2 LASTS 12, and 3 LASTS 3
        x.tell(15);
        x.tell(18);
        Edge.due(x, 0, "check");
        x.tell(6);
        x.tell(18);
        Edge.due(x, 1, "check");
        x.set(2, 29);
        x.tell(41);
        x.tell(45);
        Edge.due(x, 0, "check");
    }

    private static void checkBeyondTheLastMinute() {
        Edge.says("MINUTE beyond 99999, too.");
        ScrewLeft x = Edge.with(0, 0);
        x.set(2, 99999);
        x.tell(100011);
        x.tell(100023);
        Edge.due(x, 0, "check");
        x.tell(99999);
        Edge.due(x, 1, "check");
        Edge.due(x, 99999, "count", 5);
    }

    private static void countBeyond() {
        Edge.says("9 BODIES in THE TRACE, 10 z (any number). BEYOND.");
        ScrewLeft x = new ScrewLeft();
        int[] atFirst = {0, 0, 0, 50, 1, 0, 0, 0, 0, 0, 1};
        for (int what = 0; what <= 10; what++) {
            Edge.due(x, atFirst[what], "count", what);
        }
        for (int what : new int[] {-1, 11, LEAST, MOST}) {
            Edge.due(x, Due.BEYOND, "count", what);
        }
        Edge.due(x, 4, "told", 1);
    }

    private static void countFullThings() {
        Edge.says("0 STEPS, 1 how many are DONE, 2 how many are WRONG, 3 THE BAG, 4 HANDS, 5 MINUTE, 6 TIRED");
        ScrewLeft x = new ScrewLeft();
        fillAll(x);
        for (int i = 0; i < 8; i++) {
            x.change(i, 2, 1);
        }
        x.set(1, 999);
        int[] full = {8, 8, 8, 999, 2, 99999, 9, 50, 20, 0, LEAST};
        for (int what = 0; what <= 10; what++) {
            Edge.due(x, full[what], "count", what);
        }
    }

    private static void countAnyZ() {
        Edge.says("10 z (any number).");
        ScrewLeft x = new ScrewLeft();
        for (int z : new int[] {Due.BEYOND, LEAST, MOST, -1}) {
            x.seed(z);
            Edge.due(x, z, "count", 10);
        }
        Edge.due(x, 0, "told", 1);
    }

    private static void toldEachError() {
        Edge.says("How many acts have answered an ERROR LOW - k (k 1 .. 5)");
        for (int k = 1; k <= 5; k++) {
            ScrewLeft x = Edge.with(0);
            for (int i = 0; i < 20; i++) {
                x.tell(0);
            }
            for (int times = 1; times <= 3; times++) {
                int answer = k == 1 ? x.does(1) : k == 2 ? x.restore() : k == 3 ? x.undo(0) : k == 4 ? x.tell(0) : x.as(0, 1);
                Edge.is("an ERROR", answer, -1000000000 - k);
                for (int other = 1; other <= 5; other++) {
                    Edge.due(x, other == k ? times : 0, "told", other);
                }
            }
        }
    }

    private static void toldBeyond() {
        Edge.says("BEYOND: another k (counted, too).");
        ScrewLeft x = new ScrewLeft();
        int before = 0;
        for (int k : new int[] {0, -1, 6, 7, LEAST, MOST}) {
            Edge.due(x, before, "told", 1);
            Edge.due(x, Due.BEYOND, "told", k);
            before++;
        }
        Edge.due(x, 6, "told", 1);
        for (int k = 2; k <= 5; k++) {
            Edge.due(x, 0, "told", k);
        }
    }
}
