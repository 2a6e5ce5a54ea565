/** Terms 3 and promises 14 to 23: each sentence that names a boundary of what would be. */
public final class EdgesOfThoughtTest {
    private static final int LEAST = Integer.MIN_VALUE;
    private static final int MOST = Integer.MAX_VALUE;
    private static final int[] NO_STEPS = {-1, 2, 7, 8, 31, 32, 33, LEAST, MOST};
    private static final int[] NOT_0_OR_1 = {-1, 2, LEAST, MOST};

    public static void main(String[] args) {
        next();
        onlyThought();
        beyondTheLastMinute();
        allAsLongAsSomeMay();
        allTakesTheLeast();
        allBeyond();
        orderOfFiveAtMost();
        orderOfNone();
        orderFirstByNumbers();
        orderNotAllCanBeDone();
        orderNoSuchPlace();
        orderBeyondThenStateThenNone();
        underNothing();
        underThoseThatNeedOneOfThese();
        underRefused();
        goBackAlone();
        goBackGreatestFirst();
        goBackByNumbersThen();
        goBackWithoutScrews();
        blocked();
        goBackRefused();
        leftBelowZero();
        whoseOfNoSteps();
        whoseOfAll();
        whoseRefused();
        lookAtNone();
        lookAtOfSeveral();
        lookAtFewestThatIsNotBlocked();
        ordersOfFourAtMost();
        ordersOfMoreThanAreThere();
        ordersFromNowOn();
        ordersFirstByNumbers();
        ordersNone();
        ordersBeyond();
        oddsInLowestTerms();
        oddsZeroByOne();
        oddsBeyond();
        Due.end();
    }

    private static void next() {
        Edge.says("What 0 STEPS that MAY BE DONE, as a set, 1 those that MAY BE UNDONE. BEYOND.");
        Edge.due(new ScrewLeft(), 0, "next", 0);
        Edge.due(new ScrewLeft(), 0, "next", 1);
        ScrewLeft x = Edge.eight();
        Edge.due(x, 255, "next", 0);
        Edge.due(x, 0, "next", 1);
        x.set(2, 99999);
        x.set(1, 1);
        Edge.due(x, 0, "next", 0);
        x.set(1, 50);
        Edge.due(x, 255, "next", 0);
        x.set(2, 0);
        Edge.does(x, 0, 1, 2, 3, 4, 5, 6, 7);
        Edge.due(x, 0, "next", 0);
        Edge.due(x, 255, "next", 1);
        for (int what : NOT_0_OR_1) {
            Edge.due(x, Due.BEYOND, "next", what);
        }
    }

    private static void onlyThought() {
        Edge.says("(All this is only thought, MINUTE beyond 99999, too.)");
        Object[][] calls = {{"next", 0}, {"next", 1}, {"all", 0}, {"all", 1}, {"all", 2}, {"order", -1}, {"order", 0},
            {"under", 0}, {"goBack", 0, 0}, {"goBack", 0, 1}, {"left"}, {"whose", 9, 0}, {"whose", 9, 1}, {"lookAt"},
            {"orders", 0, 0}, {"orders", 0, 1}, {"odds", 0, 0}, {"odds", 0, 1}};
        String before = Probe.of(Probe.rich(7));
        for (Object[] call : calls) {
            ScrewLeft x = Probe.rich(7);
            Object[] args = java.util.Arrays.copyOfRange(call, 1, call.length);
            Edge.call(x, (String) call[0], args);
            Edge.holds(call[0] + " changes nothing", before.equals(Probe.of(x)));
        }
    }

    /** One is TIRED by 9: a STEP LASTS 12 then, and takes 6 BACK. */
    private static void beyondTheLastMinute() {
        Edge.says("MINUTE beyond 99999, too.");
        ScrewLeft x = Edge.with(0, 0, 0, 0);
        x.does(3);
        x.change(3, 2, 1);
        x.set(2, 99999);
        Edge.due(x, 36, "all", 0);
        Edge.due(x, 0, "all", 1);
        Edge.due(x, 36, "order", -1);
        Edge.due(x, 2, "order", 2);
        Edge.due(x, 18, "goBack", 3, 0);
        Edge.due(x, 3, "lookAt");
        Edge.fill(x, 0, 8, 12, 12, 12);
        Edge.due(x, 6, "orders", 0, 0);
        Edge.due(x, 0, "orders", 0, 1);
        Edge.due(x, 99999, "count", 5);
    }

    private static void allAsLongAsSomeMay() {
        Edge.says("ALL by numbers: as long as some MAY BE DONE");
        ScrewLeft none = new ScrewLeft();
        Edge.due(none, 0, "all", 0);
        Edge.due(none, 0, "all", 1);
        Edge.due(none, 0, "all", 2);
        ScrewLeft x = Edge.eight();
        Edge.due(x, 24, "all", 0);
        Edge.due(x, 0, "all", 1);
        x.set(1, 15);
        Edge.due(x, 21, "all", 0);
        Edge.due(x, 1, "all", 1);
        x.set(1, 1);
        Edge.due(x, 0, "all", 0);
        Edge.due(x, 8, "all", 1);
        x.set(1, 50);
        Edge.does(x, 0, 1, 2, 3, 4, 5, 6, 7);
        x.change(7, 2, 1);
        Edge.due(x, 0, "all", 0);
        Edge.due(x, 0, "all", 1);
        Edge.due(x, 1, "all", 2);
    }

    private static void allTakesTheLeast() {
        Edge.says("the least of these is DONE");
        ScrewLeft x = Edge.with(0, 0, 0);
        x.change(0, 0, 9);
        x.change(1, 0, 1);
        x.set(1, 9);
        // 0 takes all SCREWS, and LASTS 10
        Edge.due(x, 10, "all", 0);
        Edge.due(x, 2, "all", 1);
        x.set(1, 8);
        // 0 lacks SCREWS; 1 and 2 LAST 2 and 3
        Edge.due(x, 5, "all", 0);
        Edge.due(x, 1, "all", 1);
    }

    private static void allBeyond() {
        Edge.says("ALL by numbers: what 0 MINUTES, 1 how many are not DONE then, 2 how many WRONG. BEYOND.");
        for (int what : new int[] {-1, 3, LEAST, MOST}) {
            Edge.due(Edge.with(0), Due.BEYOND, "all", what);
        }
    }

    private static void orderOfFiveAtMost() {
        Edge.says("of all orders in which all that are not DONE (5 at most) can be DONE one behind the other");
        for (int open = 0; open <= 8; open++) {
            ScrewLeft x = Edge.eight();
            for (int step = 0; step < 8 - open; step++) {
                x.does(step);
            }
            x.set(2, 0);
            Edge.due(x, open <= 5 ? 3 * open : Due.STATE, "order", -1);
            for (int place = 0; place < 5; place++) {
                int want = open > 5 ? Due.STATE : place < open ? 8 - open + place : Due.NONE;
                Edge.due(x, want, "order", place);
            }
        }
    }

    private static void orderOfNone() {
        Edge.says("BEST ORDER: what -1 the MINUTES, 0 .. 4 the STEP there.");
        Edge.due(new ScrewLeft(), 0, "order", -1);
        ScrewLeft x = Edge.with(0);
        x.does(0);
        x.set(1, 0);
        x.set(2, 99999);
        Edge.due(x, 0, "order", -1);
        Edge.due(x, Due.NONE, "order", 0);
    }

    private static void orderFirstByNumbers() {
        Edge.says("of several the first by numbers: the MINUTES; the STEP at a place in it (from 0).");
        ScrewLeft x = Edge.with(0, 0, 0, 0, 0);
        x.change(1, 1, 1);
        for (int place = 0; place < 5; place++) {
            Edge.due(x, place, "order", place);
        }
        // 3 from 27 to 30, then four of 4; 4 is the longest, and best ahead of 30; so any ahead, and then 4 last is not
        x.become(4, 30);
        x.set(2, 27);
        Edge.due(x, 6 + 4 * 4, "order", -1);
        Edge.due(x, 4, "order", 0);
        for (int place = 1; place < 5; place++) {
            Edge.due(x, place - 1, "order", place);
        }
        x.set(2, 26);
        // another may be ahead of it now, and ends at 29: 3 + 6 + 3 * 4
        Edge.due(x, 3 + 6 + 3 * 4, "order", -1);
        int[] best = {0, 4, 1, 2, 3};
        for (int place = 0; place < 5; place++) {
            Edge.due(x, best[place], "order", place);
        }
    }

    private static void orderNotAllCanBeDone() {
        Edge.says("NONE: they can't all be DONE; there is no such place.");
        ScrewLeft x = Edge.with(0, 0, 0, 0, 0);
        x.set(1, 9);
        Edge.due(x, Due.NONE, "order", -1);
        Edge.due(x, Due.NONE, "order", 0);
        Edge.due(x, Due.NONE, "order", 4);
        x.set(1, 10);
        Edge.due(x, 15, "order", -1);
        x.become(0, 60);
        Edge.due(x, Due.NONE, "order", -1);
        x.set(0, 2);
        Edge.due(x, 15, "order", -1);
        x.set(0, 1);
        x.become(0, 0);
        x.change(4, 1, 15);
        Edge.due(x, 4, "order", 4);
        Edge.due(x, 15, "order", -1);
        x.become(3, 60);
        Edge.due(x, Due.NONE, "order", -1);
    }

    private static void orderNoSuchPlace() {
        Edge.says("there is no such place.");
        ScrewLeft x = Edge.with(0, 0, 0);
        Edge.due(x, 2, "order", 2);
        Edge.due(x, Due.NONE, "order", 3);
        Edge.due(x, Due.NONE, "order", 4);
        Edge.due(x, Due.BEYOND, "order", 5);
        x.does(1);
        Edge.due(x, 2, "order", 1);
        Edge.due(x, Due.NONE, "order", 2);
    }

    private static void orderBeyondThenStateThenNone() {
        Edge.says("BEYOND. STATE: more than 5 are not DONE. NONE: they can't all be DONE; there is no such place.");
        ScrewLeft x = Edge.eight();
        x.set(1, 0);
        for (int what : new int[] {-2, 5, LEAST, MOST}) {
            Edge.due(x, Due.BEYOND, "order", what);
            Edge.due(new ScrewLeft(), Due.BEYOND, "order", what);
        }
        Edge.due(x, Due.STATE, "order", -1);
        Edge.due(x, Due.STATE, "order", 0);
        Edge.due(x, Due.STATE, "order", 4);
        x.set(1, 50);
        Edge.does(x, 0, 1);
        Edge.due(x, Due.STATE, "order", -1);
        x.does(2);
        x.set(1, 0);
        Edge.due(x, Due.NONE, "order", -1);
    }

    private static void underNothing() {
        Edge.says("all that must be UNDONE ahead of it, as a set");
        ScrewLeft x = Edge.eight();
        x.does(7);
        Edge.due(x, 0, "under", 7);
        x.does(0);
        Edge.due(x, 0, "under", 0);
        for (int step = 1; step < 8; step++) {
            x.change(step, 1, 1);
        }
        Edge.due(x, 128, "under", 0);
        Edge.does(x, 1, 2, 3, 4, 5, 6);
        Edge.due(x, 254, "under", 0);
        Edge.due(x, 0, "under", 1);
    }

    private static void underThoseThatNeedOneOfThese() {
        Edge.says("those that are DONE and NEED it, or NEED one of these.");
        ScrewLeft x = Edge.eight();
        for (int step = 1; step < 8; step++) {
            x.change(step, 1, 1 << step - 1);
        }
        Edge.does(x, 0, 1, 2, 3, 4, 5, 6, 7);
        int[] under = {254, 252, 248, 240, 224, 192, 128, 0};
        for (int step = 0; step < 8; step++) {
            Edge.due(x, under[step], "under", step);
        }
        // 3 is undone while 4, which needs it no more then, stays DONE and needs it again
        x.change(4, 1, 0);
        Edge.due(x, 14, "under", 0);
        x.undo(3);
        x.change(4, 1, 8);
        Edge.due(x, 6, "under", 0);
        Edge.due(x, 224, "under", 4);
    }

    private static void underRefused() {
        Edge.says("UNDER. BEYOND. STATE: it isn't DONE.");
        ScrewLeft x = Edge.with(0, 0);
        Edge.due(x, Due.STATE, "under", 0);
        x.does(0);
        Edge.due(x, 0, "under", 0);
        Edge.due(x, Due.STATE, "under", 1);
        for (int step : NO_STEPS) {
            Edge.due(x, Due.BEYOND, "under", step);
        }
    }

    private static void goBackAlone() {
        Edge.says("and it are UNDONE, then DONE again, it first, then by numbers: MINUTES in all");
        ScrewLeft x = Edge.with(0);
        x.does(0);
        int[][] minutes = {{0, 1 + 3}, {28, 1 + 3}, {29, 1 + 4}, {30, 2 + 4}, {58, 2 + 5}, {99999, 6 + 12}};
        for (int[] m : minutes) {
            x.set(2, m[0]);
            Edge.due(x, m[1], "goBack", 0, 0);
        }
        Due.text(x, 0, "1");
        Edge.due(x, 1, "goBack", 0, 0);
    }

    private static void goBackGreatestFirst() {
        Edge.says("these, the greatest number first, and it are UNDONE");
        ScrewLeft x = Edge.with(0, 30);
        x.change(1, 1, 1);
        Edge.does(x, 0, 1);
        x.set(2, 24);
        // 1 to 30, 0 to 32, then 0 to 36, 1 to 44; the least first: 25, 31, 35, 43
        Edge.due(x, 20, "goBack", 0, 0);
    }

    private static void goBackByNumbersThen() {
        Edge.says("then DONE again, it first, then by numbers");
        ScrewLeft x = Edge.with(0, 30);
        x.change(1, 1, 1);
        Edge.does(x, 0, 1);
        x.set(2, 19);
        // 1 to 25, 0 to 26, then 0 to 29, 1 to 35; 1 ahead of 0: 32, 36
        Edge.due(x, 16, "goBack", 0, 0);
        ScrewLeft y = Edge.with(0, 0, 30);
        y.change(1, 1, 1);
        y.change(2, 1, 1);
        Edge.does(y, 0, 1, 2);
        y.set(2, 15);
        // 2 to 21, 1 to 22, 0 to 23, then 0 to 26, 1 to 29, 2 to 35; 2 ahead of 1: 26, 32, 36
        Edge.due(y, 20, "goBack", 0, 0);
    }

    private static void goBackWithoutScrews() {
        Edge.says("(SCREWS don't matter)");
        ScrewLeft x = Edge.with(0, 0);
        x.change(1, 1, 1);
        Edge.does(x, 0, 1);
        x.set(2, 0);
        x.set(1, 0);
        Edge.due(x, 1 + 1 + 3 + 3, "goBack", 0, 0);
        x.become(0, 60);
        // nor who carries it
        Edge.due(x, 1 + 6 + 6 + 3, "goBack", 0, 0);
    }

    private static void blocked() {
        Edge.says("BLOCKED: whether it or one of these can NEVER be UNDONE.");
        for (int kind = 0; kind < 7; kind++) {
            ScrewLeft x = Edge.with(0, 10 * kind, 0, 20);
            x.change(1, 1, 1);
            x.change(2, 1, 2);
            x.set(0, 2);
            Edge.does(x, 0, 1, 2, 3);
            int never = kind == 2 || kind == 5 ? 1 : 0;
            Edge.due(x, never, "goBack", 0, 1);
            Edge.due(x, never, "goBack", 1, 1);
            Edge.due(x, 0, "goBack", 2, 1);
            Edge.due(x, 1, "goBack", 3, 1);
        }
        ScrewLeft y = Edge.with(0, 20);
        y.change(1, 1, 1);
        y.does(0);
        Edge.due(y, 0, "goBack", 0, 1);
        y.does(1);
        Edge.due(y, 1, "goBack", 0, 1);
        // what is BLOCKED takes MINUTES as well: 5 / 2 and 1, then 3 and 5
        y.set(2, 0);
        Edge.due(y, 2 + 1 + 3 + 5, "goBack", 0, 0);
    }

    private static void goBackRefused() {
        Edge.says("GO BACK: what 0 MINUTES, 1 BLOCKED (1, 0). BEYOND. STATE: it isn't DONE.");
        ScrewLeft x = Edge.with(0, 0);
        x.does(0);
        for (int what : NOT_0_OR_1) {
            Edge.due(x, Due.BEYOND, "goBack", 0, what);
            Edge.due(x, Due.BEYOND, "goBack", 1, what);
        }
        for (int step : NO_STEPS) {
            Edge.due(x, Due.BEYOND, "goBack", step, 0);
            Edge.due(x, Due.BEYOND, "goBack", step, 1);
        }
        Edge.due(x, Due.STATE, "goBack", 1, 0);
        Edge.due(x, Due.STATE, "goBack", 1, 1);
    }

    private static void leftBelowZero() {
        Edge.says("LEFT OVER: THE BAG less SCREWS of all that are not DONE (below 0: they lack).");
        Edge.due(new ScrewLeft(), 50, "left");
        ScrewLeft x = Edge.eight();
        Edge.due(x, 34, "left");
        x.set(1, 16);
        Edge.due(x, 0, "left");
        x.set(1, 15);
        Edge.due(x, -1, "left");
        for (int step = 0; step < 8; step++) {
            x.change(step, 0, 9);
        }
        x.set(1, 0);
        Edge.due(x, -72, "left");
        x.set(1, 999);
        Edge.due(x, 927, "left");
        Edge.does(x, 0, 1, 2, 3, 4, 5, 6, 7);
        Edge.due(x, 927, "left");
        Edge.says("LEFT OVER (any number).");
        for (int k = 1; k <= 5; k++) {
            Edge.due(x, 0, "told", k);
        }
    }

    private static void whoseOfNoSteps() {
        Edge.says("WHOSE: sets of STEPS that are DONE whose SCREWS are n together: how many; the least.");
        ScrewLeft x = new ScrewLeft();
        Edge.due(x, 1, "whose", 0, 0);
        Edge.due(x, 0, "whose", 0, 1);
        Edge.due(x, 0, "whose", 1, 0);
        x.step(0, 3, 0);
        Edge.due(x, 1, "whose", 0, 0);
        Edge.due(x, 0, "whose", 3, 0);
        Edge.due(x, Due.NONE, "whose", 3, 1);
        x.does(0);
        Edge.due(x, 1, "whose", 3, 0);
        Edge.due(x, 1, "whose", 3, 1);
    }

    private static void whoseOfAll() {
        Edge.says("sets of STEPS that are DONE whose SCREWS are n together: how many; the least.");
        ScrewLeft x = Edge.eight();
        Edge.does(x, 0, 1, 2, 3, 4, 5, 6, 7);
        Edge.due(x, 1, "whose", 16, 0);
        Edge.due(x, 255, "whose", 16, 1);
        Edge.due(x, 70, "whose", 8, 0);
        Edge.due(x, 15, "whose", 8, 1);
        Edge.due(x, 0, "whose", 15, 0);
        Edge.due(x, 0, "whose", 17, 0);
        for (int step = 0; step < 8; step++) {
            x.change(step, 0, 0);
        }
        Edge.due(x, 256, "whose", 0, 0);
        Edge.due(x, 0, "whose", 0, 1);
        for (int step = 0; step < 8; step++) {
            x.change(step, 0, 9);
        }
        Edge.due(x, 255, "whose", 72, 1);
        Edge.due(x, 8, "whose", 9, 0);
        Edge.due(x, 1, "whose", 9, 1);
    }

    private static void whoseRefused() {
        Edge.says("WHOSE, for n (0 to 99): what 0 how many, 1 the least. BEYOND. NONE: (what 1) there is none.");
        ScrewLeft x = Edge.with(0);
        Edge.due(x, 1, "whose", 0, 0);
        Edge.due(x, 0, "whose", 99, 0);
        Edge.due(x, Due.NONE, "whose", 99, 1);
        for (int n : new int[] {-1, 100, LEAST, MOST}) {
            Edge.due(x, Due.BEYOND, "whose", n, 0);
            Edge.due(x, Due.BEYOND, "whose", n, 1);
        }
        for (int what : NOT_0_OR_1) {
            Edge.due(x, Due.BEYOND, "whose", 0, what);
            Edge.due(x, Due.BEYOND, "whose", 99, what);
        }
    }

    private static void lookAtNone() {
        Edge.says("LOOK AT. NONE: there is none such.");
        Edge.due(new ScrewLeft(), Due.NONE, "lookAt");
        ScrewLeft x = Edge.with(0, 20, 50, 0);
        Edge.due(x, Due.NONE, "lookAt");
        x.change(1, 1, 1);
        Edge.does(x, 0, 1, 2, 3);
        Edge.due(x, Due.NONE, "lookAt");
        for (int step = 0; step < 3; step++) {
            x.change(step, 2, 1);
            Edge.due(x, Due.NONE, "lookAt");
        }
        x.change(3, 2, 1);
        Edge.due(x, 3, "lookAt");
        x.undo(3);
        Edge.due(x, Due.NONE, "lookAt");
    }

    private static void lookAtOfSeveral() {
        Edge.says("to which to GO BACK takes fewest MINUTES, and that isn't BLOCKED; of several the least.");
        ScrewLeft x = Edge.eight();
        Edge.does(x, 0, 1, 2, 3, 4, 5, 6, 7);
        for (int step = 7; step >= 0; step--) {
            x.change(step, 2, 1);
            Edge.due(x, step, "lookAt");
        }
        x.change(5, 0, 1);
        Edge.due(x, 5, "lookAt");
        x.change(3, 0, 1);
        Edge.due(x, 3, "lookAt");
        x.change(3, 2, 0);
        Edge.due(x, 5, "lookAt");
    }

    private static void lookAtFewestThatIsNotBlocked() {
        Edge.says("and that isn't BLOCKED");
        ScrewLeft x = Edge.with(20, 0, 0);
        x.change(0, 0, 0);
        x.change(1, 0, 9);
        Edge.does(x, 0, 1, 2);
        for (int step = 0; step < 3; step++) {
            x.change(step, 2, 1);
        }
        // 0 is the quickest, but BLOCKED
        Edge.due(x, 2, "lookAt");
        x.change(2, 2, 0);
        Edge.due(x, 1, "lookAt");
    }

    private static void ordersOfFourAtMost() {
        Edge.says("orders of so many STEPS (4 at most) by which it is just so: how many");
        int[] found = {8, 56, 336, 1680};
        ScrewLeft x = Edge.eight();
        for (int n = 1; n <= 4; n++) {
            x.sheet(1, 32, n);
            for (int i = 0; i < n; i++) {
                x.put(1, i, 3);
            }
            Edge.due(x, found[n - 1], "orders", 1, 0);
            Edge.due(x, 0, "orders", 1, 1);
            x.put(1, n - 1, 4);
            Edge.due(x, 0, "orders", 1, 0);
            Edge.due(x, Due.NONE, "orders", 1, 1);
            x.put(1, n - 1, 2);
            Edge.due(x, 0, "orders", 1, 0);
        }
        Edge.fill(x, 1, 32, 3, 3, 3, 3, 3);
        Edge.due(x, Due.NONE, "orders", 1, 0);
        Edge.due(x, Due.NONE, "orders", 1, 1);
    }

    private static void ordersOfMoreThanAreThere() {
        Edge.says("orders of so many STEPS");
        ScrewLeft x = Edge.with(0, 0);
        Edge.fill(x, 0, 8, 3, 3, 3);
        Edge.due(x, 0, "orders", 0, 0);
        Edge.due(x, Due.NONE, "orders", 0, 1);
        Edge.fill(x, 0, 8, 3, 3);
        Edge.due(x, 2, "orders", 0, 0);
        Edge.does(x, 0, 1);
        Edge.due(x, 0, "orders", 0, 0);
        ScrewLeft none = new ScrewLeft();
        Edge.fill(none, 0, 8, 0);
        Edge.due(none, 0, "orders", 0, 0);
        Edge.due(none, Due.NONE, "orders", 0, 1);
    }

    private static void ordersFromNowOn() {
        Edge.says("MINUTES that passed with each of the STEPS DONE one behind the other, from now on");
        ScrewLeft x = Edge.with(0, 0, 0);
        Edge.fill(x, 3, 16, 3, 4);
        Edge.due(x, 0, "orders", 3, 0);
        x.set(2, 27);
        Edge.due(x, 6, "orders", 3, 0);
        x.set(1, 3);
        Edge.due(x, 0, "orders", 3, 0);
        x.set(1, 4);
        Edge.due(x, 6, "orders", 3, 0);
        x.change(1, 1, 1);
        x.change(2, 1, 1);
        Edge.due(x, 2, "orders", 3, 0);
        x.change(2, 1, 2);
        Edge.due(x, 1, "orders", 3, 0);
        Edge.due(x, 0, "orders", 3, 1);
    }

    private static void ordersFirstByNumbers() {
        Edge.says("how many; the first STEP of the first one by numbers.");
        for (int first = 0; first < 8; first++) {
            ScrewLeft x = Edge.eight();
            for (int step = 0; step < first; step++) {
                x.change(step, 0, 3);
            }
            Edge.fill(x, 3, 16, 3);
            Edge.due(x, 8 - first, "orders", 3, 0);
            Edge.due(x, first, "orders", 3, 1);
            x.change(7, 0, 4);
            Edge.fill(x, 3, 16, 5, 3);
            Edge.due(x, first == 7 ? 0 : 7 - first, "orders", 3, 0);
            Edge.due(x, first == 7 ? Due.NONE : 7, "orders", 3, 1);
        }
    }

    private static void ordersNone() {
        Edge.says("NONE: the SHEET is missing, has no number or more than 4; (what 1) there is none.");
        ScrewLeft x = Edge.with(0);
        for (int what = 0; what < 2; what++) {
            Edge.due(x, Due.NONE, "orders", 0, what);
            x.sheet(1, 8, 0);
            Edge.due(x, Due.NONE, "orders", 1, what);
            x.sheet(2, 8, 5);
            Edge.due(x, Due.NONE, "orders", 2, what);
            x.sheet(3, 8, 40);
            Edge.due(x, Due.NONE, "orders", 3, what);
        }
        x.sheet(2, 8, 1);
        Edge.due(x, 0, "orders", 2, 0);
        Edge.due(x, Due.NONE, "orders", 2, 1);
        x.put(2, 0, 3);
        Edge.due(x, 1, "orders", 2, 0);
        Edge.due(x, 0, "orders", 2, 1);
        x.sheet(2, 0, 1);
        Edge.due(x, Due.NONE, "orders", 2, 0);
    }

    private static void ordersBeyond() {
        Edge.says("ORDERS, by a SHEET: what 0 how many, 1 the first STEP. BEYOND.");
        ScrewLeft x = Edge.with(0);
        Edge.fill(x, 0, 8, 3);
        for (int sheet : new int[] {-1, 4, LEAST, MOST}) {
            Edge.due(x, Due.BEYOND, "orders", sheet, 0);
            Edge.due(x, Due.BEYOND, "orders", sheet, 1);
        }
        for (int what : NOT_0_OR_1) {
            Edge.due(x, Due.BEYOND, "orders", 0, what);
            Edge.due(x, Due.BEYOND, "orders", 3, what);
        }
    }

    private static void oddsInLowestTerms() {
        Edge.says("TIRED being 0 to 9, each just as likely: a fraction in lowest terms (0 is 0 by 1).");
        int[] above = {0, 1, 1, 3, 2, 1, 3, 7, 4, 9, 1};
        int[] below = {1, 10, 5, 10, 5, 2, 5, 10, 5, 10, 1};
        ScrewLeft x = Edge.with(0);
        for (int right = 0; right <= 10; right++) {
            Due.text(x, 1, "!(t<" + right + ")");
            Edge.due(x, above[right], "odds", 0, 0);
            Edge.due(x, below[right], "odds", 0, 1);
            Due.text(x, 1, "t>" + right + "-1");
            Edge.due(x, above[right], "odds", 0, 0);
        }
        x.set(2, 99999);
        Edge.due(x, 1, "odds", 0, 0);
        ScrewLeft y = new ScrewLeft();
        for (int m = 0; m < 8; m++) {
            y.step(m + 2, 0, 0);
            Edge.due(y, above[8 - m], "odds", m, 0);
            Edge.due(y, below[8 - m], "odds", m, 1);
        }
    }

    private static void oddsZeroByOne() {
        Edge.says("(0 is 0 by 1)");
        ScrewLeft x = Edge.with(0);
        Due.text(x, 1, "1");
        Edge.due(x, 0, "odds", 0, 0);
        Edge.due(x, 1, "odds", 0, 1);
        Due.text(x, 1, "0");
        Edge.due(x, 1, "odds", 0, 0);
        Edge.due(x, 1, "odds", 0, 1);
    }

    private static void oddsBeyond() {
        Edge.says("ODDS: part 0 above, 1 below the line. BEYOND.");
        ScrewLeft x = Edge.with(0, 0);
        for (int part : NOT_0_OR_1) {
            Edge.due(x, Due.BEYOND, "odds", 0, part);
        }
        for (int step : NO_STEPS) {
            Edge.due(x, Due.BEYOND, "odds", step, 0);
            Edge.due(x, Due.BEYOND, "odds", step, 1);
        }
    }
}
