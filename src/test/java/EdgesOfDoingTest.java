/** Promises 2 to 7 and 11 to 13: each sentence that names a boundary of these acts. */
public final class EdgesOfDoingTest {
    private static final int LEAST = Integer.MIN_VALUE;
    private static final int MOST = Integer.MAX_VALUE;
    private static final int[] NO_STEPS = {-1, 2, 7, 8, 31, 32, 33, LEAST, MOST};

    public static void main(String[] args) {
        stepAlsoWhatItNeeds();
        stepFull();
        ofStep();
        change();
        changeOfOneThatIsNotDone();
        set();
        become();
        asOneAbove();
        asAnother();
        does();
        doesUpToTheLastMinute();
        undo();
        undoUpToTheLastMinute();
        looseFromOneToForty();
        looseCouldBeAbove();
        looseByThreeHundred();
        drawsGoRound();
        drawsNotThere();
        drawsDoOrUndoOrPass();
        Due.end();
    }

    private static void stepAlsoWhatItNeeds() {
        Edge.says("that NEEDS a set: its number. BEYOND: also what it NEEDS. FULL.");
        ScrewLeft x = new ScrewLeft();
        Edge.due(x, Due.BEYOND, "step", 0, 0, 1);
        Edge.due(x, 0, "step", 0, 0, 0);
        Edge.due(x, Due.BEYOND, "step", 0, 0, 2);
        Edge.due(x, 1, "step", 0, 0, 1);
        Edge.due(x, 2, "count", 0);
        Edge.due(x, 2, "told", 1);
    }

    private static void stepFull() {
        Edge.says("BEYOND: also what it NEEDS. FULL.");
        ScrewLeft x = Edge.eight();
        Edge.due(x, Due.FULL, "step", 69, 9, 255);
        Edge.due(x, Due.BEYOND, "step", 69, 9, 256);
        Edge.due(x, Due.BEYOND, "step", 70, 9, 255);
        Edge.due(x, Due.BEYOND, "step", 69, 10, 255);
        Edge.due(x, 1, "told", 4);
        Edge.due(x, 3, "told", 1);
    }

    private static void ofStep() {
        Edge.says("8 whether it MAY BE DONE, 9 whether it MAY BE UNDONE. BEYOND.");
        ScrewLeft x = Edge.with(15, 25);
        int[] first = {1, 5, 2, 0, 0, 0, 4, 2, 1, 0};
        for (int what = 0; what < 10; what++) {
            Edge.due(x, first[what], "ofStep", 0, what);
        }
        for (int what : new int[] {-1, 10, LEAST, MOST}) {
            Edge.due(x, Due.BEYOND, "ofStep", 0, what);
        }
        for (int step : NO_STEPS) {
            Edge.due(x, Due.BEYOND, "ofStep", step, 0);
        }
    }

    private static void change() {
        Edge.says("SCREWS (what 0), what it NEEDS (1), WRONG (2; 0, 1) of a STEP becomes v: what it was. BEYOND.");
        ScrewLeft x = Edge.with(0, 0);
        Edge.does(x, 0, 1);
        int[] most = {9, 1, 1};
        for (int what = 0; what < 3; what++) {
            x.change(1, what, 0);
            Edge.due(x, 0, "change", 1, what, most[what]);
            Edge.due(x, Due.BEYOND, "change", 1, what, most[what] + 1);
            Edge.due(x, Due.BEYOND, "change", 1, what, -1);
            Edge.due(x, Due.BEYOND, "change", 1, what, LEAST);
            Edge.due(x, Due.BEYOND, "change", 1, what, MOST);
            Edge.due(x, most[what], "change", 1, what, 0);
            for (int step : NO_STEPS) {
                Edge.due(x, Due.BEYOND, "change", step, what, 0);
            }
        }
        for (int what : new int[] {-1, 3, LEAST, MOST}) {
            Edge.due(x, Due.BEYOND, "change", 1, what, 0);
        }
    }

    private static void changeOfOneThatIsNotDone() {
        Edge.says("BEYOND. STATE: (what 2) it isn't DONE.");
        ScrewLeft x = Edge.with(0, 0);
        Edge.due(x, Due.STATE, "change", 0, 2, 0);
        Edge.due(x, Due.STATE, "change", 0, 2, 1);
        Edge.due(x, Due.BEYOND, "change", 0, 2, 2);
        Edge.due(x, Due.BEYOND, "change", 0, 2, -1);
        Edge.due(x, 2, "change", 0, 0, 3);
        Edge.due(x, 0, "change", 1, 1, 1);
        x.does(0);
        Edge.due(x, 0, "change", 0, 2, 1);
        x.undo(0);
        Edge.due(x, Due.STATE, "change", 0, 2, 0);
    }

    private static void set() {
        Edge.says("HANDS (what 0), THE BAG (1), MINUTE (2) becomes v: what it was. BEYOND.");
        ScrewLeft x = new ScrewLeft();
        for (int what : new int[] {-1, 3, LEAST, MOST}) {
            Edge.due(x, Due.BEYOND, "set", what, 1);
        }
        Edge.due(x, 1, "set", 0, 2);
        Edge.due(x, 50, "set", 1, 999);
        Edge.due(x, 0, "set", 2, 99999);
        Edge.due(x, Due.BEYOND, "set", 0, 0);
        Edge.due(x, Due.BEYOND, "set", 0, 3);
        Edge.due(x, Due.BEYOND, "set", 1, 1000);
        Edge.due(x, Due.BEYOND, "set", 2, 100000);
        Edge.due(x, 2, "count", 4);
        Edge.due(x, 999, "count", 3);
        Edge.due(x, 99999, "count", 5);
    }

    private static void become() {
        Edge.says("A STEP becomes one of a KIND, with m (km): the KIND that it was. BEYOND.");
        ScrewLeft x = Edge.with(0, 0);
        Edge.due(x, 0, "become", 1, 69);
        Edge.due(x, 6, "become", 1, 0);
        Edge.due(x, Due.BEYOND, "become", 1, 70);
        Edge.due(x, Due.BEYOND, "become", 1, -1);
        for (int step : NO_STEPS) {
            Edge.due(x, Due.BEYOND, "become", step, 0);
        }
        Edge.due(x, 0, "ofStep", 1, 0);
    }

    private static void asOneAbove() {
        Edge.says("A STEP as one of a KIND: m. BEYOND.");
        ScrewLeft x = Edge.with(9, 60);
        Edge.due(x, 9, "as", 0, 0);
        Edge.due(x, 0, "as", 1, 6);
        for (int kind : new int[] {-1, 7, LEAST, MOST}) {
            Edge.due(x, Due.BEYOND, "as", 0, kind);
        }
        for (int step : NO_STEPS) {
            Edge.due(x, Due.BEYOND, "as", step, 0);
        }
    }

    private static void asAnother() {
        Edge.says("KIND: it isn't of that KIND, nor of one under it.");
        Edge.due(Edge.with(15), Due.KIND, "as", 0, 4);
        Edge.due(Edge.with(45), 5, "as", 0, 1);
        Edge.due(Edge.with(45), Due.KIND, "as", 0, 2);
        Edge.due(Edge.with(45), Due.KIND, "as", 0, 5);
        Edge.due(Edge.with(55), 5, "as", 0, 2);
        Edge.due(Edge.with(55), Due.KIND, "as", 0, 1);
        Edge.due(Edge.with(65), 5, "as", 0, 3);
        Edge.due(Edge.with(65), Due.KIND, "as", 0, 2);
        Edge.due(Edge.with(5), Due.KIND, "as", 0, 1);
    }

    private static void does() {
        Edge.says("A STEP is DONE: whether it is WRONG. BEYOND.");
        ScrewLeft x = Edge.with(9, 9);
        Edge.due(x, 0, "does", 0);
        x.set(2, 30);
        Edge.due(x, 1, "does", 1);
        for (int step : NO_STEPS) {
            Edge.due(x, Due.BEYOND, "does", step);
        }
        Edge.due(new ScrewLeft(), Due.BEYOND, "does", 0);
    }

    /** At the end one is TIRED by 9, so that it LASTS 3 and 9. */
    private static void doesUpToTheLastMinute() {
        Edge.says("STATE: it MAY not BE DONE, or MINUTE would be above 99999.");
        for (int[] c : new int[][] {{99999 - 12, 0}, {99999 - 11, Due.STATE}, {99999, Due.STATE}}) {
            ScrewLeft x = Edge.with(0);
            x.set(2, c[0]);
            Edge.due(x, 1, "ofStep", 0, 8);
            Edge.due(x, c[1], "does", 0);
            Edge.due(x, c[1] == 0 ? 99999 : c[0], "count", 5);
            Edge.due(x, c[1] == 0 ? 1 : 0, "ofStep", 0, 4);
        }
        ScrewLeft x = Edge.with(0);
        x.change(0, 0, 0);
        Due.text(x, 0, "0");
        x.set(2, 99998);
        Edge.due(x, 0, "does", 0);
        Edge.due(x, 99999, "count", 5);
    }

    private static void undo() {
        Edge.says("A STEP is UNDONE: THE BAG. BEYOND.");
        ScrewLeft x = Edge.with(0, 0);
        Edge.does(x, 0, 1);
        for (int step : NO_STEPS) {
            Edge.due(x, Due.BEYOND, "undo", step);
        }
        Edge.due(x, 47, "undo", 1);
        Edge.due(new ScrewLeft(), Due.BEYOND, "undo", 0);
    }

    private static void undoUpToTheLastMinute() {
        Edge.says("STATE: it MAY not BE UNDONE, or MINUTE would be above 99999.");
        for (int[] c : new int[][] {{99999 - 6, 49}, {99999 - 5, Due.STATE}, {99999, Due.STATE}}) {
            ScrewLeft x = Edge.with(0);
            x.does(0);
            x.set(2, c[0]);
            Edge.due(x, 1, "ofStep", 0, 9);
            Edge.due(x, c[1], "undo", 0);
            Edge.due(x, c[1] == 49 ? 99999 : c[0], "count", 5);
            Edge.due(x, c[1] == 49 ? 0 : 1, "ofStep", 0, 4);
        }
        ScrewLeft x = Edge.with(0);
        Due.text(x, 0, "1");
        x.does(0);
        x.set(2, 99999);
        Edge.due(x, 0, "ofStep", 0, 7);
        Edge.due(x, 49, "undo", 0);
        Edge.due(x, 99999, "count", 5);
    }

    private static void looseFromOneToForty() {
        Edge.says("n (1 to 40) STEPS by draws: how many were DONE. BEYOND.");
        ScrewLeft x = new ScrewLeft();
        Edge.due(x, 0, "loose", 1);
        Edge.due(x, 1, "count", 5);
        Edge.due(x, 0, "loose", 40);
        Edge.due(x, 41, "count", 5);
        int z = x.count(10);
        for (int n : new int[] {0, -1, -40, 41, LEAST, MOST}) {
            Edge.due(x, Due.BEYOND, "loose", n);
        }
        Edge.due(x, 41, "count", 5);
        Edge.due(x, z, "count", 10);
    }

    private static void looseCouldBeAbove() {
        Edge.says("BEYOND. STATE: MINUTE could be above 99999 (by 300 for each).");
        ScrewLeft x = new ScrewLeft();
        x.set(2, 99999);
        Edge.due(x, Due.STATE, "loose", 1);
        Edge.due(x, Due.STATE, "loose", 40);
        Edge.due(x, Due.BEYOND, "loose", 41);
        Edge.due(x, Due.BEYOND, "loose", 0);
        Edge.due(x, 1, "count", 10);
        Edge.due(x, 99999, "count", 5);
    }

    private static void looseByThreeHundred() {
        Edge.says("(by 300 for each)");
        for (int n : new int[] {1, 2, 39, 40}) {
            ScrewLeft x = new ScrewLeft();
            x.set(2, 99999 - 300 * n + 1);
            Edge.due(x, Due.STATE, "loose", n);
            x.set(2, 99999 - 300 * n);
            Edge.due(x, 0, "loose", n);
            Edge.due(x, 99999 - 299 * n, "count", 5);
        }
    }

    private static void drawsGoRound() {
        Edge.says("each makes it z * 1103515245 + 12345 (an int), and gives z >>> 8.");
        int[] seeds = {0, 1, -1, MOST, LEAST, MOST - 1, LEAST + 1};
        for (int seed : seeds) {
            ScrewLeft x = new ScrewLeft();
            x.seed(seed);
            x.loose(1);
            long z = seed * 1103515245L + 12345L;
            Edge.due(x, (int) z, "count", 10);
        }
        // 1103515246 * 1103515245 + 12345 goes round to a z below 0 here, of which z >>> 8 is no less than 0
        ScrewLeft x = Edge.eight();
        x.seed(1);
        int z = 1;
        for (int i = 0; i < 40; i++) {
            z = (int) (z * 1103515245L + 12345L);
            int step = (int) ((z & 0xFFFFFFFFL) / 256 % 8);
            int before = x.ofStep(step, 4);
            Edge.due(x, 1 - before, "loose", 1);
            Edge.due(x, 1 - before, "ofStep", step, 4);
            Edge.due(x, z, "count", 10);
        }
    }

    /** The z ahead of a draw of this number, by trying from 0 on. */
    private static int seedOf(int step) {
        int z = 0;
        while (((z * 1103515245 + 12345) >>> 8) % 8 != step) {
            z++;
        }
        return z;
    }

    private static void drawsNotThere() {
        Edge.says("if it is there, and MAY BE DONE; else it is UNDONE, if it MAY BE; else one MINUTE passes.");
        for (int steps = 0; steps < 8; steps++) {
            ScrewLeft x = new ScrewLeft();
            for (int i = 0; i < steps; i++) {
                x.step(0, 2, 0);
            }
            x.seed(seedOf(steps));
            Edge.due(x, 0, "loose", 1);
            Edge.due(x, 1, "count", 5);
            if (steps > 0) {
                x.seed(seedOf(steps - 1));
                Edge.due(x, 1, "loose", 1);
                Edge.due(x, 1, "ofStep", steps - 1, 4);
                Edge.due(x, 4, "count", 5);
            }
        }
    }

    private static void drawsDoOrUndoOrPass() {
        Edge.says("else it is UNDONE, if it MAY BE; else one MINUTE passes.");
        ScrewLeft x = Edge.with(0, 20, 0);
        x.change(2, 1, 1);
        x.seed(seedOf(2));
        Edge.due(x, 0, "loose", 1);
        Edge.due(x, 1, "count", 5);
        x.seed(seedOf(0));
        Edge.due(x, 1, "loose", 1);
        Edge.due(x, 4, "count", 5);
        x.seed(seedOf(1));
        Edge.due(x, 1, "loose", 1);
        Edge.due(x, 9, "count", 5);
        x.seed(seedOf(1));
        Edge.due(x, 0, "loose", 1);
        Edge.due(x, 10, "count", 5);
        Edge.due(x, 1, "ofStep", 1, 4);
        x.does(2);
        x.seed(seedOf(0));
        Edge.due(x, 0, "loose", 1);
        Edge.due(x, 1, "ofStep", 0, 4);
        x.seed(seedOf(2));
        Edge.due(x, 0, "loose", 1);
        Edge.due(x, 0, "ofStep", 2, 4);
        x.set(1, 1);
        x.seed(seedOf(2));
        int minute = x.count(5);
        Edge.due(x, 0, "loose", 1);
        Edge.due(x, minute + 1, "count", 5);
        x.become(0, 60);
        x.seed(seedOf(0));
        Edge.due(x, 0, "loose", 1);
        Edge.due(x, 0, "ofStep", 0, 4);
        x.set(1, 50);
        x.seed(seedOf(0));
        Edge.due(x, 0, "loose", 1);
        Edge.due(x, 0, "ofStep", 0, 4);
    }
}
