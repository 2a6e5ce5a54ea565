import java.lang.reflect.Method;
import java.lang.reflect.Modifier;
import java.util.Arrays;
import java.util.Comparator;
import java.util.function.Supplier;

/** Each refused call: the ERROR that is due, in the order in which they are asked, and nothing else changes. */
public final class RefusedTest {
    private static final int LEAST = Integer.MIN_VALUE;
    private static final int MOST = Integer.MAX_VALUE;
    private static final int[] NUMBERS = {LEAST, -1, 0, 1, 2, 3, 4, 5, 7, 8, 9, 10, 32, 40, 41, 69, 70, 99, 100, 128, 255,
        256, 999, 1000, 99999, 100000, MOST};
    private static final int[] FEW = {LEAST, -1, 0, 1, 3, 6, 41, MOST};
    private static final Supplier<ScrewLeft> NEW = ScrewLeft::new;
    private static final Supplier<ScrewLeft> FIVE = () -> Probe.rich(5);
    private static final Supplier<ScrewLeft> FULL = RefusedTest::full;

    public static void main(String[] args) {
        theProbeSeesWhatChanges();
        fullIsFull();
        inTheOrderInWhichTheyAreAsked();
        steps();
        texts();
        doing();
        thoughts();
        sheets();
        images();
        byAllNumbers(NEW);
        byAllNumbers(FIVE);
        byAllNumbers(FULL);
        Due.end();
    }

    /** 8 STEPS, 50 bytes, 20 numbers that wait, at the last MINUTE. */
    private static ScrewLeft full() {
        ScrewLeft x = Probe.rich(8);
        for (int i = 0; i < 5; i++) {
            x.feed(0x312B312B312B312BL, 8);
        }
        x.feed(0x2B312B312BL, 5);
        for (int i = 2; i < 20; i++) {
            x.tell(64 + i);
        }
        x.set(2, 99999);
        return x;
    }

    /** Without this, that a Probe is the same would tell nothing. */
    private static void theProbeSeesWhatChanges() {
        Edge.says("one that answers an ERROR changes nothing but what told() tells.");
        Object[][] acts = {{"step", 0, 0, 0}, {"change", 1, 0, 3}, {"change", 1, 1, 0}, {"change", 1, 2, 0},
            {"set", 0, 2}, {"set", 1, 7}, {"set", 2, 7}, {"become", 0, 5}, {"become", 0, 14}, {"feed", 49L, 1},
            {"text", 0}, {"text", 1}, {"does", 2}, {"undo", 3}, {"loose", 1}, {"seed", 5}, {"voice", 0, 0, 0},
            {"sheet", 0, 8, 3}, {"sheet", 0, 0, 0}, {"sheet", 3, 8, 0}, {"sheet", 3, 32, 0}, {"sheet", 0, 16, 3},
            {"put", 0, 1, 7}, {"put", 2, 38, 7}, {"put", 1, 5, 7}, {"move", 1, 0, 1, 1, 2}, {"screws", 0}, {"image"},
            {"restore"}, {"tell", 60}, {"check"}};
        String before = Probe.of(Probe.rich(5));
        Edge.holds("the Probe is the same again", before.equals(Probe.of(Probe.rich(5))));
        for (Object[] act : acts) {
            ScrewLeft x = Probe.rich(5);
            int answer = Edge.call(x, (String) act[0], Arrays.copyOfRange(act, 1, act.length));
            Edge.holds(Arrays.toString(act) + " is taken", answer > -1000000000);
            Edge.holds(Arrays.toString(act) + " is seen", !before.equals(Probe.of(x)));
        }
        ScrewLeft y = Probe.rich(5);
        Edge.due(y, 0, "check");
        y.restore();
        Edge.due(y, 2, "count", 8);
        Edge.due(y, 0, "check");
    }

    private static void fullIsFull() {
        Edge.says("one that answers an ERROR changes nothing but what told() tells.");
        ScrewLeft x = full();
        int[] full = {8, 3, 1, 77, 1, 99999, 9, 50, 20};
        for (int what = 0; what < full.length; what++) {
            Edge.due(x, full[what], "count", what);
        }
    }

    /** Calls that could be refused for several reasons. */
    private static void inTheOrderInWhichTheyAreAsked() {
        Edge.says("Each act tells its ERRORS in the order in which they are asked");
        refused(FULL, Due.BEYOND, "step", -1, 0, 0);
        refused(FULL, Due.BEYOND, "step", 0, -1, 0);
        refused(FULL, Due.BEYOND, "step", 0, 0, 256);
        refused(FIVE, Due.BEYOND, "change", 4, 2, -1);
        refused(FULL, Due.BEYOND, "feed", 49L, 9);
        refused(FULL, Due.BEYOND, "loose", 41);
        refused(Edge::eight, Due.BEYOND, "order", 5);
        refused(RefusedTest::sixThatCannotBeDone, Due.BEYOND, "order", -2);
        refused(RefusedTest::sixThatCannotBeDone, Due.STATE, "order", -1);
        refused(RefusedTest::sixThatCannotBeDone, Due.STATE, "order", 4);
        refused(FIVE, Due.BEYOND, "goBack", 4, -1);
        refused(NEW, Due.BEYOND, "whose", 100, 1);
        refused(NEW, Due.BEYOND, "orders", 0, -1);
        refused(FIVE, Due.BEYOND, "sheet", 4, 16, -1);
        refused(FIVE, Due.BEYOND, "sheet", 0, 24, -1);
        refused(FIVE, Due.BEYOND, "put", 4, 40, 0);
        refused(FIVE, Due.NONE, "put", 3, 40, 0);
        refused(FIVE, Due.BEYOND, "move", 3, 0, 4, 0, -1);
        refused(FIVE, Due.NONE, "move", 3, -1, 2, 0, 41);
        refused(FIVE, Due.NONE, "move", 2, -1, 3, 0, 41);
        refused(FIVE, Due.KIND, "move", 2, -1, 1, 0, 41);
    }

    private static ScrewLeft sixThatCannotBeDone() {
        return Edge.with(60, 60, 60, 60, 60, 60);
    }

    private static void refused(Supplier<ScrewLeft> state, int error, String act, Object... args) {
        ScrewLeft x = state.get();
        int[] due = told(x);
        Edge.due(x, error, act, args);
        due[-1000000000 - error]++;
        String call = act + Arrays.toString(args);
        Edge.holds(call + " is told once", Arrays.equals(due, told(x)));
        Edge.holds(call + " changes nothing else", Probe.of(x).equals(Probe.of(state.get())));
    }

    private static int[] told(ScrewLeft x) {
        int[] told = new int[6];
        for (int k = 1; k <= 5; k++) {
            told[k] = x.told(k);
        }
        return told;
    }

    private static void steps() {
        Edge.says("A STEP (km: 10 times the KIND, and m) with SCREWS, that NEEDS a set: its number. BEYOND: also what");
        refused(FIVE, Due.BEYOND, "step", -1, 0, 0);
        refused(FIVE, Due.BEYOND, "step", 70, 0, 0);
        refused(FIVE, Due.BEYOND, "step", 0, -1, 0);
        refused(FIVE, Due.BEYOND, "step", 0, 10, 0);
        refused(FIVE, Due.BEYOND, "step", 0, 0, -1);
        refused(FIVE, Due.BEYOND, "step", 0, 0, 32);
        refused(FULL, Due.BEYOND, "step", 70, 0, 0);
        refused(FULL, Due.BEYOND, "step", 0, 10, 0);
        refused(FULL, Due.BEYOND, "step", 0, 0, 256);
        refused(FULL, Due.FULL, "step", 0, 0, 255);
        Edge.says("Of a STEP: 0 KIND, 1 m, 2 SCREWS, 3 what it NEEDS");
        refused(FIVE, Due.BEYOND, "ofStep", -1, 0);
        refused(FIVE, Due.BEYOND, "ofStep", 5, 0);
        refused(FIVE, Due.BEYOND, "ofStep", 0, -1);
        refused(FIVE, Due.BEYOND, "ofStep", 0, 10);
        Edge.says("what it was. BEYOND. STATE: (what 2) it isn't DONE.");
        refused(FIVE, Due.BEYOND, "change", 5, 0, 0);
        refused(FIVE, Due.BEYOND, "change", 0, 3, 0);
        refused(FIVE, Due.BEYOND, "change", 0, 0, 10);
        refused(FIVE, Due.BEYOND, "change", 4, 1, 16);
        refused(FIVE, Due.BEYOND, "change", 1, 2, 2);
        refused(FIVE, Due.BEYOND, "change", 2, 2, 2);
        refused(FIVE, Due.STATE, "change", 2, 2, 1);
        refused(FIVE, Due.STATE, "change", 2, 2, 0);
        Edge.says("HANDS (what 0), THE BAG (1), MINUTE (2) becomes v: what it was. BEYOND.");
        for (int[] beyond : new int[][] {{-1, 1}, {3, 1}, {0, 0}, {0, 3}, {1, -1}, {1, 1000}, {2, -1}, {2, 100000}}) {
            refused(FIVE, Due.BEYOND, "set", beyond[0], beyond[1]);
        }
        Edge.says("with m (km): the KIND that it was. BEYOND.");
        refused(FIVE, Due.BEYOND, "become", 5, 0);
        refused(FIVE, Due.BEYOND, "become", -1, 0);
        refused(FIVE, Due.BEYOND, "become", 0, -1);
        refused(FIVE, Due.BEYOND, "become", 0, 70);
        Edge.says("A STEP as one of a KIND: m. BEYOND. KIND: it isn't of that KIND, nor of one under it.");
        refused(FIVE, Due.BEYOND, "as", 5, 0);
        refused(FIVE, Due.BEYOND, "as", 0, 7);
        refused(FIVE, Due.BEYOND, "as", 0, -1);
        refused(FIVE, Due.KIND, "as", 0, 1);
        refused(FIVE, Due.KIND, "as", 1, 4);
    }

    private static void texts() {
        Edge.says("come to THE TAPE: how many there are. BEYOND. FULL.");
        refused(FIVE, Due.BEYOND, "feed", 49L, 0);
        refused(FIVE, Due.BEYOND, "feed", 49L, 9);
        refused(FULL, Due.BEYOND, "feed", 49L, 0);
        refused(FULL, Due.BEYOND, "feed", 49L, 9);
        refused(FULL, Due.FULL, "feed", 49L, 1);
        refused(FULL, Due.FULL, "feed", 49L, 8);
        Edge.says("BEYOND (THE TAPE stays).");
        refused(FIVE, Due.BEYOND, "text", 2);
        refused(FIVE, Due.BEYOND, "text", -1);
        refused(NEW, Due.BEYOND, "text", 2);
        Edge.says("What a USE gives with its NAMES in order as a, b, c. BEYOND.");
        refused(FIVE, Due.BEYOND, "law", 2, 0, 0, 0);
        refused(FIVE, Due.BEYOND, "law", -1, 0, 0, 0);
    }

    private static void doing() {
        Edge.says("BEYOND. STATE: it MAY not BE DONE, or MINUTE would be above 99999.");
        refused(FIVE, Due.BEYOND, "does", 5);
        refused(FIVE, Due.BEYOND, "does", -1);
        refused(FIVE, Due.STATE, "does", 0);
        refused(() -> Edge.with(60), Due.STATE, "does", 0);
        refused(FULL, Due.STATE, "does", 5);
        refused(FULL, Due.BEYOND, "does", 8);
        Edge.says("BEYOND. STATE: it MAY not BE UNDONE, or MINUTE would be above 99999.");
        refused(FIVE, Due.BEYOND, "undo", 5);
        refused(FIVE, Due.BEYOND, "undo", -1);
        refused(FIVE, Due.STATE, "undo", 0);
        refused(FIVE, Due.STATE, "undo", 4);
        refused(FULL, Due.STATE, "undo", 3);
        refused(FULL, Due.BEYOND, "undo", 8);
        Edge.says("BEYOND. STATE: MINUTE could be above 99999 (by 300 for each).");
        refused(FIVE, Due.BEYOND, "loose", 0);
        refused(FIVE, Due.BEYOND, "loose", 41);
        refused(FULL, Due.BEYOND, "loose", 0);
        refused(FULL, Due.BEYOND, "loose", 41);
        refused(FULL, Due.STATE, "loose", 1);
        refused(FULL, Due.STATE, "loose", 40);
    }

    private static void thoughts() {
        Edge.says("What 0 STEPS that MAY BE DONE, as a set, 1 those that MAY BE UNDONE. BEYOND.");
        refused(FIVE, Due.BEYOND, "next", 2);
        Edge.says("ALL by numbers: what 0 MINUTES, 1 how many are not DONE then, 2 how many WRONG. BEYOND.");
        refused(FIVE, Due.BEYOND, "all", 3);
        refused(FIVE, Due.BEYOND, "all", -1);
        Edge.says("BEYOND. STATE: more than 5 are not DONE. NONE: they can't all be DONE; there is no such place.");
        refused(Edge::eight, Due.BEYOND, "order", -2);
        refused(Edge::eight, Due.BEYOND, "order", 5);
        refused(Edge::eight, Due.STATE, "order", -1);
        refused(Edge::eight, Due.STATE, "order", 4);
        refused(() -> Edge.with(0, 60), Due.NONE, "order", -1);
        refused(FIVE, Due.NONE, "order", 3);
        refused(NEW, Due.NONE, "order", 0);
        Edge.says("UNDER. BEYOND. STATE: it isn't DONE.");
        refused(FIVE, Due.BEYOND, "under", 5);
        refused(FIVE, Due.STATE, "under", 4);
        Edge.says("GO BACK: what 0 MINUTES, 1 BLOCKED (1, 0). BEYOND. STATE: it isn't DONE.");
        refused(FIVE, Due.BEYOND, "goBack", 5, 0);
        refused(FIVE, Due.BEYOND, "goBack", 0, 2);
        refused(FIVE, Due.BEYOND, "goBack", 4, 2);
        refused(FIVE, Due.STATE, "goBack", 4, 0);
        refused(FIVE, Due.STATE, "goBack", 4, 1);
        Edge.says("BEYOND. NONE: (what 1) there is none.");
        refused(FIVE, Due.BEYOND, "whose", -1, 0);
        refused(FIVE, Due.BEYOND, "whose", 100, 1);
        refused(FIVE, Due.BEYOND, "whose", 99, 2);
        refused(FIVE, Due.NONE, "whose", 99, 1);
        Edge.says("LOOK AT. NONE: there is none such.");
        refused(NEW, Due.NONE, "lookAt");
        refused(Edge::eight, Due.NONE, "lookAt");
        Edge.says("BEYOND. NONE: the SHEET is missing, has no number or more than 4; (what 1) there is none.");
        refused(FIVE, Due.BEYOND, "orders", 4, 0);
        refused(FIVE, Due.BEYOND, "orders", 3, 2);
        refused(FIVE, Due.NONE, "orders", 3, 0);
        refused(FIVE, Due.NONE, "orders", 2, 0);
        refused(FIVE, Due.NONE, "orders", 0, 1);
        Edge.says("ODDS: part 0 above, 1 below the line. BEYOND.");
        refused(FIVE, Due.BEYOND, "odds", 5, 0);
        refused(FIVE, Due.BEYOND, "odds", 0, 2);
    }

    private static void sheets() {
        Edge.says("A VOICE of a STEP: any number. BEYOND.");
        refused(FIVE, Due.BEYOND, "voice", 5, 0, 0);
        refused(FIVE, Due.BEYOND, "voice", 0, 4, 0);
        refused(FIVE, Due.BEYOND, "voice", 0, -1, 0);
        Edge.says("THE TRACE's i-th. NONE: there is none such.");
        refused(NEW, Due.NONE, "trace", 0);
        refused(FIVE, Due.NONE, "trace", -1);
        refused(FIVE, Due.NONE, "trace", 40);
        Edge.says("BEYOND. STATE: n is below 0 (ahead of BEYOND of n).");
        refused(FIVE, Due.BEYOND, "sheet", 4, 8, 1);
        refused(FIVE, Due.BEYOND, "sheet", -1, 8, -1);
        refused(FIVE, Due.BEYOND, "sheet", 0, 7, -1);
        refused(FIVE, Due.STATE, "sheet", 0, 8, -1);
        refused(FIVE, Due.BEYOND, "sheet", 0, 8, 41);
        Edge.says("BEYOND: no such SHEET. NONE: it is missing. BEYOND: no such number.");
        refused(FIVE, Due.BEYOND, "put", 4, -1, 1);
        refused(FIVE, Due.NONE, "put", 3, -1, 1);
        refused(FIVE, Due.BEYOND, "put", 0, 3, 1);
        refused(FIVE, Due.BEYOND, "put", 0, -1, 1);
        Edge.says("KIND: they are of unlike bits. BEYOND: n, i, or j is below 0, or they don't stand there.");
        refused(FIVE, Due.BEYOND, "move", 4, 0, 3, 0, 1);
        refused(FIVE, Due.NONE, "move", 3, 0, 0, -1, 1);
        refused(FIVE, Due.NONE, "move", 0, 0, 3, 0, 1);
        refused(FIVE, Due.KIND, "move", 0, 0, 1, 9, 1);
        refused(FIVE, Due.BEYOND, "move", 1, 0, 1, 0, -1);
        refused(FIVE, Due.BEYOND, "move", 1, -1, 1, 0, 2);
        refused(FIVE, Due.BEYOND, "move", 1, 0, 1, -1, 2);
        refused(FIVE, Due.BEYOND, "move", 1, 0, 1, 4, 3);
        refused(FIVE, Due.BEYOND, "move", 1, 4, 1, 0, 3);
        Edge.says("BEYOND: no such SHEET. NONE: it is missing.");
        refused(FIVE, Due.BEYOND, "screws", 4);
        refused(FIVE, Due.NONE, "screws", 3);
        refused(FIVE, Due.BEYOND, "judge", -1);
        refused(FIVE, Due.NONE, "judge", 3);
    }

    private static void images() {
        Edge.says("MINUTE. NONE: there is none.");
        refused(NEW, Due.NONE, "restore");
        refused(Edge::eight, Due.NONE, "restore");
        Edge.says("how many. FULL: 20 wait.");
        refused(FULL, Due.FULL, "tell", 1);
        Edge.says("10 z (any number). BEYOND.");
        refused(FIVE, Due.BEYOND, "count", 11);
        refused(FIVE, Due.BEYOND, "count", -1);
        Edge.says("BEYOND: another k (counted, too).");
        refused(FIVE, Due.BEYOND, "told", 0);
        refused(FIVE, Due.BEYOND, "told", 6);
    }

    /** Every act with numbers about all edges: if one ERROR is told, it is the answer, and nothing else changes. */
    private static void byAllNumbers(Supplier<ScrewLeft> state) {
        Edge.says("ERRORS are answers below -1000000000");
        String before = Probe.of(state.get());
        Method[] acts = Arrays.stream(ScrewLeft.class.getDeclaredMethods())
            .filter(m -> Modifier.isPublic(m.getModifiers())).toArray(Method[]::new);
        Arrays.sort(acts, Comparator.comparing(Method::getName));
        Edge.is("acts", acts.length, 36);
        for (Method act : acts) {
            String bad = firstBad(state, before, act, new Object[act.getParameterCount()], 0);
            Edge.holds(act.getName() + ": " + bad, bad == null);
        }
    }

    /** The first call, with the places from here on filled by all numbers, that is not as it should be, or null. */
    private static String firstBad(Supplier<ScrewLeft> state, String before, Method act, Object[] args, int place) {
        if (place == args.length) {
            return isGood(state.get(), before, act.getName(), args) ? null : Arrays.toString(args);
        }
        for (int number : args.length > 2 ? FEW : NUMBERS) {
            args[place] = act.getParameterTypes()[place] == long.class ? (Object) (long) number : (Object) number;
            String bad = firstBad(state, before, act, args, place + 1);
            if (bad != null) {
                return bad;
            }
        }
        return null;
    }

    private static boolean isGood(ScrewLeft x, String before, String act, Object[] args) {
        int[] told = told(x);
        int answer = Edge.call(x, act, args);
        int[] then = told(x);
        if (Arrays.equals(told, then)) {
            boolean anyNumber = act.equals("seed") || act.equals("voice") || act.equals("count");
            return anyNumber || answer >= -1000000000;
        }
        int k = -1000000000 - answer;
        if (k < 1 || k > 5) {
            return false;
        }
        told[k]++;
        return Arrays.equals(told, then) && before.equals(Probe.of(x));
    }
}
