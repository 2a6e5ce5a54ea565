/** Terms 4 and promises 24 to 31: each sentence that names a boundary of seeds, VOICES and SHEETS. */
public final class EdgesOfSheetsTest {
    private static final int LEAST = Integer.MIN_VALUE;
    private static final int MOST = Integer.MAX_VALUE;
    private static final int[] NO_SHEETS = {-1, 4, 8, LEAST, MOST};

    public static void main(String[] args) {
        seedOfAnyNumber();
        voiceGoesRoundOnAStep();
        voiceGoesRoundUnderIt();
        voiceBeyond();
        traceOfTheLatest();
        traceFirstForty();
        traceNone();
        missingAtFirst();
        sheetOfFortyAtMost();
        sheetOfNoNumbers();
        sheetMissing();
        sheetBits();
        sheetStateAheadOfBeyondOfN();
        sheetAllZero();
        putLowestBits();
        putInOrderOfErrors();
        moveAsTheyAllWere();
        moveOfNone();
        moveOfAllForty();
        moveInOrderOfErrors();
        moveWhereTheyStand();
        screwsUpToTheFirst();
        screwsWithoutStep();
        screwsErrors();
        judgeLacksOrTooMany();
        judgeNow();
        judgeErrors();
        Due.end();
    }

    private static void seedOfAnyNumber() {
        Edge.says("z becomes v: what it was (any number).");
        ScrewLeft x = new ScrewLeft();
        int was = 1;
        for (int v : new int[] {0, -1, LEAST, MOST, Due.BEYOND, Due.KIND, 5}) {
            Edge.due(x, was, "seed", v);
            Edge.due(x, v, "count", 10);
            was = v;
        }
        for (int k = 1; k <= 5; k++) {
            Edge.due(x, 0, "told", k);
        }
    }

    /** n is 1. */
    private static void voice(int km, int act, int x, int want) {
        ScrewLeft object = Edge.with(0, km);
        Edge.due(object, want, "voice", 1, act, x);
        Edge.due(object, 0, "told", 1);
    }

    private static void voiceGoesRoundOnAStep() {
        Edge.says("VOICES of a STEP, with a number x (ints that go round)");
        voice(9, 0, MOST, LEAST);
        voice(9, 1, MOST, 0);
        voice(9, 1, MOST - 1, -2);
        voice(9, 2, LEAST, MOST - 8);
        voice(9, 3, MOST, MOST - 9);
        voice(9, 0, Due.BEYOND - 1, Due.BEYOND);
    }

    private static void voiceGoesRoundUnderIt() {
        Edge.says("(ints that go round); n is the number, m as told");
        voice(19, 0, MOST, LEAST);
        voice(19, 0, MOST - 1, MOST - 2);
        voice(29, 1, 1073741822, -2147483642);
        voice(39, 2, LEAST + 9, LEAST);
        voice(40, 3, LEAST, MOST - 2);
        voice(59, 1, MOST, 10);
        voice(69, 2, LEAST + 9, LEAST + 1);
        voice(69, 2, 4, 5 ^ 1);
        int x = 1 << 30;
        int errs = (x + 1) * 2;
        int looks = -(x - 9) ^ 1;
        voice(69, 3, x, errs - (errs ^ looks));
    }

    private static void voiceBeyond() {
        Edge.says("A VOICE of a STEP: any number. BEYOND.");
        ScrewLeft x = Edge.with(0, 0);
        Edge.due(x, -4, "voice", 1, 0, -5);
        for (int act : new int[] {-1, 4, LEAST, MOST}) {
            Edge.due(x, Due.BEYOND, "voice", 0, act, 0);
        }
        for (int step : new int[] {-1, 2, 8, LEAST, MOST}) {
            Edge.due(x, Due.BEYOND, "voice", step, 0, 0);
        }
        Edge.due(x, 1, "count", 9);
        Edge.due(x, 10, "trace", 0);
    }

    private static void traceOfTheLatest() {
        Edge.says("THE TRACE: the numbers of BODIES of the latest voice(), as they began");
        ScrewLeft x = Edge.with(60, 0);
        Edge.due(x, 0, "count", 9);
        x.voice(0, 3, 0);
        Edge.due(x, 9, "count", 9);
        x.voice(1, 2, 0);
        Edge.due(x, 1, "count", 9);
        Edge.due(x, 12, "trace", 0);
        Edge.due(x, Due.NONE, "trace", 1);
    }

    /** No VOICE begins as many: 9 BODIES are the most. */
    private static void traceFirstForty() {
        Edge.says("(what stands left is worked out first), the first 40.");
        int most = 0;
        for (int kind = 0; kind < 7; kind++) {
            for (int act = 0; act < 4; act++) {
                ScrewLeft x = Edge.with(10 * kind + 4);
                x.voice(0, act, 3);
                int begun = x.count(9);
                most = Math.max(most, begun);
                Edge.holds("BODY there", x.trace(begun - 1) >= 10);
                Edge.due(x, Due.NONE, "trace", begun);
                Edge.due(x, Due.NONE, "trace", 39);
                Edge.due(x, Due.NONE, "trace", 40);
            }
        }
        Edge.is("the most", most, 9);
    }

    private static void traceNone() {
        Edge.says("THE TRACE's i-th. NONE: there is none such.");
        ScrewLeft x = Edge.with(0);
        Edge.due(x, Due.NONE, "trace", 0);
        x.voice(0, 1, 0);
        Edge.due(x, 11, "trace", 0);
        Edge.due(x, 10, "trace", 1);
        for (int i : new int[] {-1, 2, 39, 40, 41, LEAST, MOST}) {
            Edge.due(x, Due.NONE, "trace", i);
        }
    }

    private static void missingAtFirst() {
        Edge.says("SHEETS 0 .. 3 are rows of 8, 16, 32 bits, at most 40 numbers, or missing (as at first).");
        ScrewLeft x = Edge.with(0);
        for (int sheet = 0; sheet < 4; sheet++) {
            Edge.due(x, Due.NONE, "put", sheet, 0, 0);
            Edge.due(x, Due.NONE, "move", sheet, 0, sheet, 0, 0);
            Edge.due(x, Due.NONE, "screws", sheet);
            Edge.due(x, Due.NONE, "judge", sheet);
            Edge.due(x, Due.NONE, "orders", sheet, 0);
        }
        for (int sheet : NO_SHEETS) {
            Edge.due(x, Due.BEYOND, "sheet", sheet, 8, 1);
            Edge.due(x, Due.BEYOND, "sheet", sheet, 0, 1);
        }
    }

    private static void sheetOfFortyAtMost() {
        Edge.says("at most 40 numbers");
        ScrewLeft x = new ScrewLeft();
        for (int sheet = 0; sheet < 4; sheet++) {
            Edge.due(x, Due.BEYOND, "sheet", sheet, 16, 41);
            Edge.due(x, Due.NONE, "put", sheet, 0, 0);
            Edge.due(x, 1, "sheet", sheet, 16, 40);
            Edge.due(x, 1, "put", sheet, 39, 7);
            Edge.due(x, Due.BEYOND, "put", sheet, 40, 7);
            Edge.due(x, Due.BEYOND, "sheet", sheet, 16, MOST);
            Edge.due(x, 1, "put", sheet, 39, 7);
        }
    }

    private static void sheetOfNoNumbers() {
        Edge.says("A SHEET has n numbers, all 0, of so many bits");
        ScrewLeft x = Edge.with(0);
        Edge.due(x, 1, "sheet", 0, 8, 0);
        Edge.due(x, Due.BEYOND, "put", 0, 0, 0);
        Edge.due(x, 0, "screws", 0);
        Edge.due(x, 0, "judge", 0);
        Edge.due(x, 0, "move", 0, 0, 0, 0, 0);
        Edge.due(x, Due.BEYOND, "move", 0, 0, 0, 0, 1);
        Edge.due(x, Due.NONE, "orders", 0, 0);
        ScrewLeft none = new ScrewLeft();
        none.sheet(0, 8, 0);
        Edge.due(none, -1, "judge", 0);
    }

    private static void sheetMissing() {
        Edge.says("0: it is missing, n doesn't matter");
        for (int n : new int[] {0, 1, 40, 41, -1, LEAST, MOST}) {
            ScrewLeft x = new ScrewLeft();
            Edge.fill(x, 0, 8, 1, 2, 3);
            Edge.due(x, 1, "sheet", 0, 0, n);
            Edge.due(x, Due.NONE, "put", 0, 0, 0);
            Edge.due(x, Due.NONE, "judge", 0);
        }
    }

    private static void sheetBits() {
        Edge.says("of so many bits (8, 16, 32; 0: it is missing");
        ScrewLeft x = new ScrewLeft();
        for (int bits : new int[] {1, 7, 9, 15, 17, 24, 31, 33, 64, -8, -1, LEAST, MOST}) {
            Edge.due(x, Due.BEYOND, "sheet", 0, bits, 1);
            Edge.due(x, Due.NONE, "judge", 0);
        }
        for (int bits : new int[] {8, 16, 32}) {
            Edge.due(x, 1, "sheet", 0, bits, 1);
            Edge.due(x, 0, "judge", 0);
        }
    }

    private static void sheetStateAheadOfBeyondOfN() {
        Edge.says("BEYOND. STATE: n is below 0 (ahead of BEYOND of n).");
        ScrewLeft x = new ScrewLeft();
        for (int bits : new int[] {8, 16, 32}) {
            Edge.due(x, Due.STATE, "sheet", 0, bits, -1);
            Edge.due(x, Due.STATE, "sheet", 0, bits, LEAST);
            Edge.due(x, Due.BEYOND, "sheet", 0, bits, 41);
            Edge.due(x, Due.BEYOND, "sheet", 4, bits, -1);
            Edge.due(x, Due.BEYOND, "sheet", -1, bits, -1);
        }
        Edge.due(x, Due.BEYOND, "sheet", 0, 7, -1);
        Edge.due(x, Due.BEYOND, "sheet", 4, 0, -1);
        Edge.due(x, 11, "told", 1);
        Edge.due(x, 6, "told", 3);
    }

    private static void sheetAllZero() {
        Edge.says("A SHEET has n numbers, all 0");
        ScrewLeft x = Edge.eight();
        Edge.fill(x, 0, 8, 1, 2, 3, 4, 5, 6, 7, 8);
        for (int bits : new int[] {8, 32}) {
            x.sheet(0, bits, 8);
            Edge.due(x, 8, "screws", 0);
            for (int step = 0; step < 8; step++) {
                Edge.due(x, 0, "ofStep", step, 2);
            }
            x.put(0, 7, 9);
        }
        x.sheet(0, 0, 0);
        x.sheet(0, 32, 8);
        Edge.due(x, 8, "screws", 0);
        Edge.due(x, 0, "ofStep", 7, 2);
        Edge.fill(x, 0, 32, 5, 5);
        x.sheet(0, 32, 1);
        x.sheet(0, 32, 2);
        Edge.due(x, 2, "screws", 0);
        Edge.due(x, 0, "ofStep", 1, 2);
    }

    /** What a SHEET keeps of v, asked by the one STEP's SCREWS: -1 is none of 0 to 9. */
    private static int kept(int bits, int v) {
        ScrewLeft x = Edge.with(0);
        Edge.fill(x, 0, bits, v);
        return x.screws(0) == 0 ? -1 : x.ofStep(0, 2);
    }

    private static void putLowestBits() {
        Edge.says("Number i of a SHEET becomes v (its lowest bits): 1.");
        int[][] kept = {{8, 255, -1}, {8, 256, 0}, {8, 256 + 9, 9}, {8, -256, 0}, {8, -1, -1}, {8, LEAST + 5, 5},
            {16, 256, -1}, {16, 65535, -1}, {16, 65536, 0}, {16, 65536 + 9, 9}, {16, -65536 + 3, 3}, {16, LEAST, 0},
            {32, 256, -1}, {32, 65536, -1}, {32, LEAST, -1}, {32, -1, -1}, {32, 9, 9}, {32, 10, -1}};
        for (int[] k : kept) {
            Edge.is("what stays of " + k[1] + " in " + k[0] + " bits", kept(k[0], k[1]), k[2]);
        }
        for (int bits : new int[] {8, 16, 32}) {
            ScrewLeft x = Edge.with(30);
            Due.text(x, 0, "9999");
            Edge.fill(x, 0, bits, 198);
            Edge.due(x, -1, "judge", 0);
            Edge.due(x, 1, "put", 0, 0, 198 + (1 << 16));
            Edge.due(x, bits == 32 ? 0 : -1, "judge", 0);
        }
    }

    private static void putInOrderOfErrors() {
        Edge.says("BEYOND: no such SHEET. NONE: it is missing. BEYOND: no such number.");
        ScrewLeft x = new ScrewLeft();
        x.sheet(0, 8, 3);
        for (int sheet : NO_SHEETS) {
            Edge.due(x, Due.BEYOND, "put", sheet, 0, 1);
            Edge.due(x, Due.BEYOND, "put", sheet, -1, 1);
        }
        for (int i : new int[] {-1, 3, 39, 40, LEAST, MOST}) {
            Edge.due(x, Due.NONE, "put", 1, i, 1);
            Edge.due(x, Due.BEYOND, "put", 0, i, 1);
        }
        Edge.due(x, Due.NONE, "put", 1, 0, 1);
        Edge.due(x, 1, "put", 0, 0, 1);
        Edge.due(x, 1, "put", 0, 2, 1);
    }

    private static void screwsAre(ScrewLeft x, int sheet, int... want) {
        x.screws(sheet);
        for (int step = 0; step < want.length; step++) {
            Edge.due(x, want[step], "ofStep", step, 2);
        }
    }

    private static void moveAsTheyAllWere() {
        Edge.says("come to another one (or the same), from its number j on, as they all were: n.");
        ScrewLeft x = Edge.eight();
        Edge.fill(x, 0, 8, 1, 2, 3, 4, 5, 6, 7, 8);
        Edge.due(x, 7, "move", 0, 0, 0, 1, 7);
        screwsAre(x, 0, 1, 1, 2, 3, 4, 5, 6, 7);
        Edge.due(x, 7, "move", 0, 1, 0, 0, 7);
        screwsAre(x, 0, 1, 2, 3, 4, 5, 6, 7, 7);
        Edge.due(x, 8, "move", 0, 0, 0, 0, 8);
        screwsAre(x, 0, 1, 2, 3, 4, 5, 6, 7, 7);
        Edge.due(x, 5, "move", 0, 0, 0, 3, 5);
        screwsAre(x, 0, 1, 2, 3, 1, 2, 3, 4, 5);
        Edge.fill(x, 1, 8, 9, 9, 9);
        Edge.due(x, 1, "move", 1, 2, 0, 7, 1);
        screwsAre(x, 0, 1, 2, 3, 1, 2, 3, 4, 9);
        screwsAre(x, 1, 9, 9, 9);
    }

    private static void moveOfNone() {
        Edge.says("n, i, or j is below 0, or they don't stand there.");
        ScrewLeft x = Edge.with(0, 0, 0);
        Edge.fill(x, 0, 8, 1, 2, 3);
        Edge.fill(x, 1, 8, 4, 5);
        Edge.due(x, 0, "move", 0, 0, 1, 0, 0);
        Edge.due(x, 0, "move", 0, 3, 1, 2, 0);
        Edge.due(x, Due.BEYOND, "move", 0, 4, 1, 2, 0);
        Edge.due(x, Due.BEYOND, "move", 0, 3, 1, 3, 0);
        Edge.due(x, Due.BEYOND, "move", 0, -1, 1, 0, 0);
        Edge.due(x, Due.BEYOND, "move", 0, 0, 1, -1, 0);
        screwsAre(x, 0, 1, 2, 3);
        screwsAre(x, 1, 4, 5, 3);
    }

    private static void moveOfAllForty() {
        Edge.says("n numbers of a SHEET, from number i on");
        ScrewLeft x = Edge.with(0);
        x.sheet(0, 32, 40);
        x.sheet(3, 32, 40);
        x.put(0, 0, 4);
        x.put(0, 39, 6);
        Edge.due(x, 40, "move", 0, 0, 3, 0, 40);
        screwsAre(x, 3, 4);
        Edge.due(x, 1, "move", 3, 39, 3, 0, 1);
        screwsAre(x, 3, 6);
        Edge.due(x, 39, "move", 0, 1, 3, 0, 39);
        Edge.due(x, Due.BEYOND, "move", 0, 1, 3, 0, 40);
        Edge.due(x, Due.BEYOND, "move", 0, 0, 3, 1, 40);
        Edge.due(x, Due.BEYOND, "move", 0, 0, 3, 0, 41);
    }

    private static void moveInOrderOfErrors() {
        Edge.says("BEYOND: no such SHEET. NONE: one is missing. KIND: they are of unlike bits.");
        ScrewLeft x = new ScrewLeft();
        x.sheet(0, 8, 3);
        x.sheet(1, 16, 3);
        x.sheet(2, 32, 3);
        for (int sheet : NO_SHEETS) {
            Edge.due(x, Due.BEYOND, "move", sheet, 0, 0, 0, 1);
            Edge.due(x, Due.BEYOND, "move", 0, 0, sheet, 0, 1);
            Edge.due(x, Due.BEYOND, "move", sheet, 0, 3, 0, 1);
            Edge.due(x, Due.BEYOND, "move", 3, -1, sheet, 0, 1);
            Edge.due(x, Due.BEYOND, "move", sheet, 0, sheet, 0, 0);
        }
        Edge.due(x, Due.NONE, "move", 3, 0, 0, 0, 1);
        Edge.due(x, Due.NONE, "move", 0, 0, 3, 0, 1);
        Edge.due(x, Due.NONE, "move", 3, 0, 3, 0, 0);
        Edge.due(x, Due.NONE, "move", 3, -1, 1, 9, -1);
        for (int[] two : new int[][] {{0, 1}, {1, 0}, {0, 2}, {2, 0}, {1, 2}, {2, 1}}) {
            Edge.due(x, Due.KIND, "move", two[0], 0, two[1], 0, 1);
            Edge.due(x, Due.KIND, "move", two[0], 0, two[1], 0, 0);
            Edge.due(x, Due.KIND, "move", two[0], -1, two[1], 0, 1);
            Edge.due(x, Due.KIND, "move", two[0], 0, two[1], 3, 1);
        }
    }

    private static void moveWhereTheyStand() {
        Edge.says("BEYOND: n, i, or j is below 0, or they don't stand there.");
        ScrewLeft x = Edge.with(0, 0, 0);
        Edge.fill(x, 0, 16, 1, 2, 3);
        Edge.fill(x, 1, 16, 4, 5);
        int[][] beyond = {{0, 0, -1}, {-1, 0, 1}, {0, -1, 1}, {-1, -1, 2}, {0, 0, 3}, {2, 0, 2}, {1, 1, 2}, {3, 0, 1},
            {0, 2, 1}, {LEAST, 0, 1}, {0, LEAST, 1}, {0, 0, LEAST}, {MOST, 0, 1}, {0, MOST, 1}, {0, 0, MOST},
            {1, 0, MOST}, {MOST, 0, MOST}, {0, MOST, MOST}, {-1, 0, MOST}, {LEAST, 0, MOST}, {LEAST, LEAST, LEAST}};
        for (int[] b : beyond) {
            Edge.due(x, Due.BEYOND, "move", 0, b[0], 1, b[1], b[2]);
        }
        screwsAre(x, 1, 4, 5);
        Edge.due(x, 2, "move", 0, 1, 1, 0, 2);
        screwsAre(x, 1, 2, 3);
        Edge.due(x, Due.BEYOND, "move", 1, 0, 0, 0, 3);
        Edge.due(x, Due.BEYOND, "move", 1, 1, 0, 0, 2);
        Edge.due(x, 1, "move", 1, 1, 0, 2, 1);
        screwsAre(x, 0, 1, 2, 3);
    }

    private static void screwsUpToTheFirst() {
        Edge.says("how many, up to the first that is not 0 to 9 (no ERROR then)");
        int[] notScrews = {10, 255, -1, LEAST, MOST};
        for (int v : notScrews) {
            ScrewLeft x = Edge.with(0, 0, 0);
            Edge.fill(x, 0, 32, 9, v, 8);
            Edge.due(x, 1, "screws", 0);
            Edge.due(x, 9, "ofStep", 0, 2);
            Edge.due(x, 2, "ofStep", 1, 2);
            Edge.due(x, 2, "ofStep", 2, 2);
            x.put(0, 0, v);
            Edge.due(x, 0, "screws", 0);
            Edge.due(x, 9, "ofStep", 0, 2);
            for (int k = 1; k <= 5; k++) {
                Edge.due(x, 0, "told", k);
            }
        }
        ScrewLeft y = Edge.with(0, 0);
        Edge.fill(y, 0, 8, 0, 9);
        Edge.due(y, 2, "screws", 0);
        Edge.due(y, 0, "ofStep", 0, 2);
        Edge.due(y, 9, "ofStep", 1, 2);
    }

    private static void screwsWithoutStep() {
        Edge.says("or for which there is no STEP.");
        for (int steps = 0; steps <= 8; steps++) {
            ScrewLeft x = new ScrewLeft();
            for (int i = 0; i < steps; i++) {
                x.step(0, 2, 0);
            }
            x.sheet(0, 8, 40);
            Edge.due(x, steps, "screws", 0);
            x.sheet(0, 8, 4);
            Edge.due(x, Math.min(4, steps), "screws", 0);
            x.sheet(0, 8, 0);
            Edge.due(x, 0, "screws", 0);
            Edge.due(x, steps, "count", 0);
        }
    }

    private static void screwsErrors() {
        Edge.says("BEYOND: no such SHEET. NONE: it is missing.");
        ScrewLeft x = Edge.with(0);
        x.sheet(0, 8, 1);
        for (int sheet : NO_SHEETS) {
            Edge.due(x, Due.BEYOND, "screws", sheet);
        }
        Edge.due(x, Due.NONE, "screws", 3);
        Edge.due(x, 1, "screws", 0);
    }

    private static void judgeLacksOrTooMany() {
        Edge.says("the first that isn't so (one that lacks, or is too many, too); -1: all are.");
        for (int steps = 0; steps <= 8; steps++) {
            ScrewLeft x = new ScrewLeft();
            for (int i = 0; i < steps; i++) {
                x.step(0, 2, 0);
            }
            for (int n = 0; n <= 9; n++) {
                x.sheet(0, 8, n);
                for (int i = 0; i < n; i++) {
                    x.put(0, i, 3);
                }
                Edge.due(x, n == steps ? -1 : Math.min(n, steps), "judge", 0);
                if (n > 0) {
                    x.put(0, n - 1, 2);
                    Edge.due(x, Math.min(n - 1, steps), "judge", 0);
                    x.put(0, 0, 4);
                    Edge.due(x, 0, "judge", 0);
                }
            }
        }
        ScrewLeft y = Edge.eight();
        y.sheet(0, 8, 40);
        Edge.due(y, 0, "judge", 0);
        for (int i = 0; i < 40; i++) {
            y.put(0, i, 3);
        }
        Edge.due(y, 8, "judge", 0);
    }

    private static void judgeNow() {
        Edge.says("Numbers of a SHEET are what STEPS 0, 1, .. LAST now");
        ScrewLeft x = Edge.with(0, 30);
        Edge.fill(x, 0, 32, 3, 6);
        Edge.due(x, -1, "judge", 0);
        x.set(2, 29);
        Edge.due(x, -1, "judge", 0);
        x.set(2, 30);
        Edge.due(x, 0, "judge", 0);
        x.set(2, 0);
        x.set(0, 2);
        Edge.due(x, 1, "judge", 0);
        x.put(0, 1, 3);
        x.does(0);
        Edge.due(x, -1, "judge", 0);
    }

    private static void judgeErrors() {
        Edge.says("-1: all are. BEYOND: no such SHEET. NONE: it is missing.");
        ScrewLeft x = new ScrewLeft();
        x.sheet(0, 8, 0);
        for (int sheet : NO_SHEETS) {
            Edge.due(x, Due.BEYOND, "judge", sheet);
        }
        Edge.due(x, Due.NONE, "judge", 3);
        Edge.due(x, -1, "judge", 0);
    }
}
