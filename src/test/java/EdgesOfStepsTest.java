/** Terms 1 and promises 1 to 7, 11 to 13: each sentence that names a boundary. */
public final class EdgesOfStepsTest {
    private static final int LEAST = Integer.MIN_VALUE;
    private static final int MOST = Integer.MAX_VALUE;

    public static void main(String[] args) {
        errorsAsNumbers();
        quotientsAreCut();
        atMostEightSteps();
        kinds();
        numbersOfSteps();
        screws();
        needs();
        doneOrNotAtFirst();
        hands();
        theBag();
        minute();
        tired();
        lastsOfAStepHeldAtBothEnds();
        heldLastsTwiceByOneHand();
        alikeLastsTheRestOfM();
        sealedLastsItsScrews();
        carriedLastsItsM();
        backIsCut();
        undoneTakesItBack();
        backOfHeld();
        never();
        mayBeDoneIfNotDone();
        mayBeDoneIfAllItNeedsIsDone();
        mayBeDoneWithScrewsEnough();
        mayBeDoneByTwo();
        doneTakesTheLastScrews();
        wrongByTiredAhead();
        wrongByAnyOtherThanZero();
        mayBeUndoneIfDone();
        mayBeUndoneIfNoneThatIsDoneNeedsIt();
        undoneLessOneScrew();
        undoneHeld();
        undoneIsNotWrong();
        newObject();
        Due.end();
    }

    private static void errorsAsNumbers() {
        Edge.says("LOW is -1000000000; LOW - 1 BEYOND, LOW - 2 NONE, LOW - 3 STATE, LOW - 4 FULL, LOW - 5 KIND.");
        ScrewLeft x = Edge.with(0);
        Edge.due(x, -1000000001, "does", 1);
        Edge.due(x, -1000000002, "restore");
        Edge.due(x, -1000000003, "undo", 0);
        for (int i = 0; i < 20; i++) {
            x.tell(0);
        }
        Edge.due(x, -1000000004, "tell", 0);
        Edge.due(x, -1000000005, "as", 0, 1);
    }

    private static void quotientsAreCut() {
        Edge.says("Quotients are cut (toward 0).");
        ScrewLeft x = Edge.with(0);
        Edge.due(x, 3, "ofStep", 0, 6);
        Edge.due(x, 1, "ofStep", 0, 7);
        Due.text(x, 0, "50+(0-7)/2");
        Edge.due(x, 47, "law", 0, 0, 0, 0);
        Due.text(x, 0, "50+7/(0-2)");
        Edge.due(x, 47, "law", 0, 0, 0, 0);
        Due.text(x, 0, "50+(0-1)/2");
        Edge.due(x, 50, "law", 0, 0, 0, 0);
    }

    private static void atMostEightSteps() {
        Edge.says("STEPS 0, 1, .. (at most 8)");
        ScrewLeft x = new ScrewLeft();
        Edge.due(x, Due.BEYOND, "ofStep", 0, 0);
        for (int i = 0; i < 8; i++) {
            Edge.due(x, i, "step", 10 * i % 70, i, 0);
            Edge.due(x, i % 7, "ofStep", i, 0);
            Edge.due(x, Due.BEYOND, "ofStep", i + 1, 0);
        }
        Edge.due(x, Due.FULL, "step", 0, 0, 0);
        Edge.due(x, 8, "count", 0);
    }

    private static void kinds() {
        Edge.says("of KINDS: 0 STEP; 1 BOARD, 2 GLUED, 3 HELD under STEP; 4 ALIKE under BOARD; 5 SEALED under "
            + "GLUED; 6 CARRIED under HELD");
        for (int kind = 0; kind < 7; kind++) {
            ScrewLeft x = new ScrewLeft();
            Edge.due(x, 0, "step", 10 * kind, 0, 0);
            Edge.due(x, kind, "ofStep", 0, 0);
            Edge.due(x, kind, "become", 0, 10 * kind + 9);
            Edge.due(x, kind, "ofStep", 0, 0);
            Edge.due(x, 9, "as", 0, kind);
            Edge.due(x, 9, "as", 0, 0);
        }
        int[] above = {0, 0, 0, 0, 1, 2, 3};
        for (int kind = 0; kind < 7; kind++) {
            for (int other = 1; other < 7; other++) {
                boolean is = other == kind || other == above[kind];
                Edge.due(Edge.with(10 * kind + 3), is ? 3 : Due.KIND, "as", 0, other);
            }
        }
        for (int km : new int[] {-1, -10, 70, 79, LEAST, MOST}) {
            Edge.due(Edge.with(0), Due.BEYOND, "step", km, 0, 0);
            Edge.due(Edge.with(0), Due.BEYOND, "become", 0, km);
        }
        Edge.due(Edge.with(0), Due.BEYOND, "as", 0, -1);
        Edge.due(Edge.with(0), Due.BEYOND, "as", 0, 7);
    }

    private static void numbersOfSteps() {
        Edge.says("with a number m (0 to 9)");
        for (int m = 0; m < 10; m++) {
            ScrewLeft x = Edge.with(m, 60 + m);
            Edge.due(x, m, "ofStep", 0, 1);
            Edge.due(x, m, "ofStep", 1, 1);
            Edge.due(x, 0, "ofStep", 0, 0);
            Edge.due(x, 6, "ofStep", 1, 0);
            x.become(0, 30 + m);
            Edge.due(x, m, "ofStep", 0, 1);
        }
    }

    private static void screws() {
        Edge.says("SCREWS (0 to 9)");
        for (int screws = 0; screws < 10; screws++) {
            ScrewLeft x = new ScrewLeft();
            Edge.due(x, 0, "step", 0, screws, 0);
            Edge.due(x, screws, "ofStep", 0, 2);
            Edge.due(x, screws, "change", 0, 0, 9 - screws);
            Edge.due(x, 9 - screws, "ofStep", 0, 2);
        }
        for (int screws : new int[] {-1, 10, LEAST, MOST}) {
            ScrewLeft x = Edge.with(0);
            Edge.due(x, Due.BEYOND, "step", 0, screws, 0);
            Edge.due(x, Due.BEYOND, "change", 0, 0, screws);
            Edge.due(x, 2, "ofStep", 0, 2);
        }
    }

    private static void needs() {
        Edge.says("what it NEEDS (a set of STEPS of lesser numbers)");
        ScrewLeft x = new ScrewLeft();
        for (int i = 0; i < 8; i++) {
            int lesser = (1 << i) - 1;
            for (int needs : new int[] {-1, lesser + 1, LEAST, MOST, LEAST + lesser}) {
                Edge.due(x, Due.BEYOND, "step", 0, 0, needs);
            }
            Edge.due(x, i, "step", 0, 0, lesser);
            Edge.due(x, lesser, "change", i, 1, 0);
            for (int needs : new int[] {-1, lesser + 1, LEAST, MOST, LEAST + lesser}) {
                Edge.due(x, Due.BEYOND, "change", i, 1, needs);
            }
            Edge.due(x, 0, "change", i, 1, lesser);
            Edge.due(x, lesser, "ofStep", i, 3);
        }
    }

    private static void doneOrNotAtFirst() {
        Edge.says("DONE or not (at first), and, if DONE, WRONG or not.");
        ScrewLeft x = Edge.with(0);
        Edge.due(x, 0, "ofStep", 0, 4);
        Edge.due(x, 0, "ofStep", 0, 5);
        Edge.due(x, Due.STATE, "change", 0, 2, 1);
        Edge.due(x, 0, "ofStep", 0, 5);
        x.does(0);
        Edge.due(x, 1, "ofStep", 0, 4);
        Edge.due(x, 0, "change", 0, 2, 1);
        Edge.due(x, 1, "ofStep", 0, 5);
        Edge.due(x, 1, "change", 0, 2, 0);
        Edge.due(x, 0, "ofStep", 0, 5);
    }

    private static void setting(int what, int most, int least, int atFirst) {
        ScrewLeft x = new ScrewLeft();
        Edge.due(x, atFirst, "set", what, most);
        Edge.due(x, most, "set", what, least);
        for (int v : new int[] {least - 1, most + 1, LEAST, MOST, -most}) {
            Edge.due(x, Due.BEYOND, "set", what, v);
        }
        Edge.due(x, least, "set", what, most);
    }

    private static void hands() {
        Edge.says("HANDS (1, 2; 1 at first)");
        Edge.due(new ScrewLeft(), 1, "count", 4);
        setting(0, 2, 1, 1);
    }

    private static void theBag() {
        Edge.says("THE BAG (SCREWS, 0 to 999; 50 at first)");
        Edge.due(new ScrewLeft(), 50, "count", 3);
        setting(1, 999, 0, 50);
    }

    private static void minute() {
        Edge.says("MINUTE (0 to 99999; 0 at first)");
        Edge.due(new ScrewLeft(), 0, "count", 5);
        setting(2, 99999, 0, 0);
    }

    private static void tired() {
        Edge.says("TIRED: MINUTE by 30 (cut), 9 at most.");
        ScrewLeft x = new ScrewLeft();
        for (int tired = 0; tired < 10; tired++) {
            x.set(2, 30 * tired);
            Edge.due(x, tired, "count", 6);
            x.set(2, 30 * tired + 29);
            Edge.due(x, tired, "count", 6);
        }
        for (int minute : new int[] {300, 330, 99999}) {
            x.set(2, minute);
            Edge.due(x, 9, "count", 6);
        }
    }

    /** v is 1 and 99, where the TEXT gives less and more. */
    private static int lasts(String text, int hands, int km, int screws) {
        ScrewLeft x = new ScrewLeft();
        Due.text(x, 0, text);
        x.set(0, hands);
        x.step(km, screws, 0);
        return x.ofStep(0, 6);
    }

    private static void lastsOfAStepHeldAtBothEnds() {
        Edge.says("STEP: v. BOARD: v and 1. GLUED: v and 2.");
        for (int kind = 0; kind < 3; kind++) {
            Edge.is("KIND " + kind + ", v is 1", lasts("0", 1, 10 * kind + 9, 9), 1 + kind);
            Edge.is("KIND " + kind + ", v is 99", lasts("9999", 1, 10 * kind + 9, 9), 99 + kind);
        }
    }

    private static void heldLastsTwiceByOneHand() {
        Edge.says("HELD: twice v, if h is 1, else v.");
        Edge.is("v is 1, by one", lasts("0", 1, 39, 9), 2);
        Edge.is("v is 99, by one", lasts("9999", 1, 39, 9), 198);
        Edge.is("v is 1, by two", lasts("0", 2, 39, 9), 1);
        Edge.is("v is 99, by two", lasts("9999", 2, 39, 9), 99);
    }

    private static void alikeLastsTheRestOfM() {
        Edge.says("ALIKE: as BOARD, and the rest of m by 3.");
        int[] rests = {0, 1, 2, 0, 1, 2, 0, 1, 2, 0};
        for (int m = 0; m < 10; m++) {
            Edge.is("m " + m, lasts("9999", 1, 40 + m, 9), 100 + rests[m]);
        }
    }

    private static void sealedLastsItsScrews() {
        Edge.says("SEALED: as GLUED, and SCREWS.");
        Edge.is("no SCREWS", lasts("9999", 1, 59, 0), 101);
        Edge.is("nine SCREWS", lasts("9999", 1, 50, 9), 110);
    }

    private static void carriedLastsItsM() {
        Edge.says("CARRIED: as HELD, and m.");
        Edge.is("m is 0, by one", lasts("0", 1, 60, 9), 2);
        Edge.is("m is 9, by one", lasts("9999", 1, 69, 0), 207);
        Edge.is("m is 9, by two", lasts("9999", 2, 69, 0), 108);
    }

    private static void backIsCut() {
        Edge.says("BACK (MINUTES to undo): STEP: as it LASTS, by 2 (cut).");
        int[] back = {0, 1, 1, 2, 2};
        for (int v = 1; v <= 5; v++) {
            ScrewLeft x = Edge.with(0);
            Due.text(x, 0, "" + v);
            Edge.due(x, back[v - 1], "ofStep", 0, 7);
            Edge.due(x, 0, "does", 0);
            Edge.due(x, 48 + 1, "undo", 0);
            Edge.due(x, v + back[v - 1], "count", 5);
        }
    }

    private static void undoneTakesItBack() {
        Edge.says("It is UNDONE: MINUTE is more by what it takes BACK");
        int[] back = {6, 6, 0, 24, 6, 0, 24};
        for (int kind = 0; kind < 7; kind++) {
            ScrewLeft x = Edge.with(10 * kind);
            x.set(0, 2);
            x.does(0);
            x.set(0, 1);
            x.set(2, 99900);
            Edge.due(x, back[kind] == 0 ? Due.STATE : 49, "undo", 0);
            Edge.due(x, 99900 + back[kind], "count", 5);
        }
    }

    private static void backOfHeld() {
        Edge.says("HELD: as it LASTS. (Others as the KIND above.)");
        int[] kms = {19, 29, 39, 49, 59, 69};
        int[] back = {1, 1, 2, 1, 2, 11};
        ScrewLeft x = Edge.with(kms);
        Due.text(x, 0, "0");
        for (int i = 0; i < kms.length; i++) {
            Edge.due(x, back[i], "ofStep", i, 7);
        }
    }

    private static void never() {
        Edge.says("NEVER (it can't be undone): GLUED, SEALED; others: it can.");
        ScrewLeft x = Edge.with(0, 10, 20, 30, 40, 50, 60);
        x.set(0, 2);
        for (int kind = 0; kind < 7; kind++) {
            x.does(kind);
            boolean never = kind == 2 || kind == 5;
            Edge.due(x, never ? 0 : 1, "ofStep", kind, 9);
            int bag = x.count(3);
            Edge.due(x, never ? Due.STATE : bag + 1, "undo", kind);
        }
    }

    private static void mayBeDoneIfNotDone() {
        Edge.says("MAY BE DONE: a STEP that isn't DONE");
        ScrewLeft x = Edge.with(0);
        Edge.due(x, 1, "ofStep", 0, 8);
        Edge.due(x, 0, "does", 0);
        Edge.due(x, 0, "ofStep", 0, 8);
        Edge.due(x, Due.STATE, "does", 0);
    }

    private static void mayBeDoneIfAllItNeedsIsDone() {
        Edge.says("all that it NEEDS being DONE");
        ScrewLeft x = Edge.eight();
        x.change(7, 1, 127);
        for (int step : new int[] {3, 6, 0, 5, 1, 4}) {
            x.does(step);
            Edge.due(x, 0, "ofStep", 7, 8);
            Edge.due(x, Due.STATE, "does", 7);
        }
        x.does(2);
        Edge.due(x, 1, "ofStep", 7, 8);
        x.undo(6);
        Edge.due(x, 0, "ofStep", 7, 8);
    }

    private static void mayBeDoneWithScrewsEnough() {
        Edge.says("THE BAG having SCREWS enough");
        for (int screws = 1; screws < 10; screws++) {
            ScrewLeft x = Edge.with(0);
            x.change(0, 0, screws);
            x.set(1, screws - 1);
            Edge.due(x, 0, "ofStep", 0, 8);
            Edge.due(x, Due.STATE, "does", 0);
            x.set(1, screws);
            Edge.due(x, 1, "ofStep", 0, 8);
        }
        ScrewLeft x = Edge.with(0);
        x.change(0, 0, 0);
        x.set(1, 0);
        Edge.due(x, 1, "ofStep", 0, 8);
        Edge.due(x, 0, "does", 0);
        Edge.due(x, 0, "count", 3);
    }

    private static void mayBeDoneByTwo() {
        Edge.says("and HANDS being 2 for CARRIED");
        ScrewLeft x = Edge.with(30, 60);
        Edge.due(x, 1, "ofStep", 0, 8);
        Edge.due(x, 0, "ofStep", 1, 8);
        Edge.due(x, Due.STATE, "does", 1);
        x.set(0, 2);
        Edge.due(x, 1, "ofStep", 1, 8);
        Edge.due(x, 0, "does", 1);
        x.set(0, 1);
        Edge.due(x, 1, "ofStep", 1, 9);
        Edge.due(x, 49, "undo", 1);
    }

    private static void doneTakesTheLastScrews() {
        Edge.says("It is DONE: MINUTE is more by what it LASTS, THE BAG less by SCREWS");
        ScrewLeft x = Edge.with(0);
        x.set(1, 2);
        x.set(2, 29);
        Edge.due(x, 0, "does", 0);
        Edge.due(x, 0, "count", 3);
        Edge.due(x, 32, "count", 5);
    }

    private static void wrongByTiredAhead() {
        Edge.says("it is WRONG, if the other TEXT gives other than 0 (by how TIRED one is ahead of it)");
        ScrewLeft x = Edge.with(0, 0);
        Due.text(x, 1, "t");
        x.set(2, 29);
        Edge.due(x, 0, "does", 0);
        Edge.due(x, 1, "count", 6);
        Edge.due(x, 1, "does", 1);
    }

    private static void wrongByAnyOtherThanZero() {
        Edge.says("1 ERRS, NAMES m m, t TIRED, k KIND; held within 0 to 1");
        String[] texts = {"0-1", "0", "1", "2", "9999"};
        int[] wrong = {0, 0, 1, 1, 1};
        for (int i = 0; i < texts.length; i++) {
            ScrewLeft x = Edge.with(0);
            Due.text(x, 1, texts[i]);
            Edge.due(x, wrong[i], "law", 1, 0, 0, 0);
            Edge.due(x, wrong[i], "does", 0);
            Edge.due(x, wrong[i], "count", 2);
        }
    }

    private static void mayBeUndoneIfDone() {
        Edge.says("MAY BE UNDONE: a STEP that is DONE, not NEVER");
        ScrewLeft x = Edge.with(0);
        Edge.due(x, 0, "ofStep", 0, 9);
        Edge.due(x, Due.STATE, "undo", 0);
        x.does(0);
        Edge.due(x, 1, "ofStep", 0, 9);
        Edge.due(x, 49, "undo", 0);
        Edge.due(x, Due.STATE, "undo", 0);
    }

    private static void mayBeUndoneIfNoneThatIsDoneNeedsIt() {
        Edge.says("and that no STEP that is DONE NEEDS");
        ScrewLeft x = Edge.eight();
        x.change(7, 1, 1);
        x.change(6, 1, 2);
        Edge.does(x, 0, 1, 7);
        Edge.due(x, 0, "ofStep", 0, 9);
        Edge.due(x, Due.STATE, "undo", 0);
        Edge.due(x, 1, "ofStep", 1, 9);
        Edge.due(x, 1, "ofStep", 7, 9);
        x.undo(7);
        Edge.due(x, 1, "ofStep", 0, 9);
    }

    private static void undoneLessOneScrew() {
        Edge.says("THE BAG is more by SCREWS less 1 (0 at least; held): one strips");
        int[] more = {0, 0, 1, 2, 3, 4, 5, 6, 7, 8};
        for (int screws = 0; screws < 10; screws++) {
            ScrewLeft x = Edge.with(0);
            x.change(0, 0, screws);
            x.does(0);
            x.set(1, 100);
            Edge.due(x, 100 + more[screws], "undo", 0);
            Edge.due(x, 100 + more[screws], "count", 3);
        }
    }

    private static void undoneHeld() {
        Edge.says("(0 at least; held)");
        int[][] bags = {{990, 998}, {991, 999}, {992, 999}, {999, 999}, {0, 8}};
        for (int[] bag : bags) {
            ScrewLeft x = Edge.with(0);
            x.change(0, 0, 9);
            x.does(0);
            x.set(1, bag[0]);
            Edge.due(x, bag[1], "undo", 0);
            Edge.due(x, bag[1], "count", 3);
        }
        ScrewLeft x = Edge.with(0);
        x.change(0, 0, 0);
        x.does(0);
        x.set(1, 0);
        Edge.due(x, 0, "undo", 0);
    }

    private static void undoneIsNotWrong() {
        Edge.says("it isn't DONE, nor WRONG.");
        ScrewLeft x = Edge.with(0, 0);
        Edge.does(x, 0, 1);
        x.change(0, 2, 1);
        x.change(1, 2, 1);
        x.undo(0);
        Edge.due(x, 0, "ofStep", 0, 4);
        Edge.due(x, 0, "ofStep", 0, 5);
        Edge.due(x, 1, "ofStep", 1, 5);
        Edge.due(x, 1, "count", 2);
        Edge.due(x, 0, "does", 0);
        Edge.due(x, 0, "ofStep", 0, 5);
    }

    private static void newObject() {
        Edge.says("All as at first; no STEPS.");
        ScrewLeft used = Probe.rich(8);
        used.loose(40);
        Edge.holds("an object knows nothing of another", Probe.of(new ScrewLeft()).equals(Probe.of(new ScrewLeft())));
        ScrewLeft x = new ScrewLeft();
        Edge.due(x, 0, "count", 0);
        Edge.due(x, 0, "next", 0);
        Edge.due(x, 0, "next", 1);
        Edge.due(x, 0, "all", 0);
        Edge.due(x, 0, "all", 1);
        Edge.due(x, 0, "all", 2);
        Edge.due(x, 0, "order", -1);
        Edge.due(x, 50, "left");
        Edge.due(x, 1, "whose", 0, 0);
        Edge.due(x, 0, "check");
        Edge.due(x, Due.NONE, "lookAt");
        Edge.due(x, Due.NONE, "trace", 0);
        Edge.due(x, Due.NONE, "restore");
    }
}
