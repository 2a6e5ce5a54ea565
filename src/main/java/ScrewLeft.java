/**
 * A flat cupboard in STEPS with SCREWS out of a bag: what may be done next, how long it takes,
 * what going back costs, whose screws are left over. ../shared/DOC.md tells each promise.
 */
public final class ScrewLeft {
    private static final int LOW = -1000000000;
    private static final int BEYOND = 1;
    private static final int NONE = 2;
    private static final int STATE = 3;
    private static final int FULL = 4;
    private static final int KIND = 5;
    private static final int ERRORS = 5;

    private static final int MOST_STEPS = 8;
    private static final int MOST_KM = 69;
    private static final int MOST_SCREWS = 9;
    private static final int MOST_IN_BAG = 999;
    private static final int LAST_MINUTE = 99999;
    private static final int MOST_TIRED = 9;
    private static final int MOST_BYTES = 50;
    private static final int MOST_WAITING = 20;
    private static final int MOST_DRAWS = 40;
    private static final int MINUTES_OF_A_DRAW = 300;
    private static final int MOST_ORDERED = 5;
    private static final int MOST_TOLD_BY_SHEET = 4;
    private static final int SHEETS = 4;
    private static final int MOST_CELLS = 40;
    private static final int LASTS = 0;
    private static final int ERRS = 1;
    /** By KIND, the KIND above it; STEP stands above itself. */
    private static final int[] ABOVE = {0, 0, 0, 0, 1, 2, 3};

    private final Step[] kinds = allKinds();
    private final Job now = new Job(kinds);
    private final Job image = new Job(kinds);
    /** What is only thought happens here, so that nothing of it has to be taken back. */
    private final Job thought = new Job(kinds);
    private int images;
    private final Reader reader = new Reader();
    private final Voice voice = new Voice();
    private final int[] told = new int[ERRORS + 1];
    private final int[][] cells = new int[SHEETS][MOST_CELLS];
    private final int[] lengths = new int[SHEETS];
    /** How many bits a SHEET's numbers have; 0: it is missing. */
    private final int[] bits = new int[SHEETS];
    private final int[] path = new int[MOST_ORDERED];
    private final int[] best = new int[MOST_ORDERED];

    public ScrewLeft() {
    }

    // ---- steps, the bag

    public int step(int km, int screws, int needs) {
        boolean good = within(km, 0, MOST_KM) && within(screws, 0, MOST_SCREWS);
        if (!good || !within(needs, 0, (1 << now.steps) - 1)) {
            return error(BEYOND);
        }
        if (now.steps >= MOST_STEPS) {
            return error(FULL);
        }
        return now.add(km, screws, needs);
    }

    public int ofStep(int step, int what) {
        if (!now.has(step)) {
            return error(BEYOND);
        }
        switch (what) {
            case 0:
                return now.kindNumbers[step];
            case 1:
                return now.numbers[step];
            case 2:
                return now.screws[step];
            case 3:
                return now.needs[step];
            case 4:
                return now.isDone(step) ? 1 : 0;
            case 5:
                return now.isWrong(step) ? 1 : 0;
            case 6:
                return now.lasts(step);
            case 7:
                return now.takesBack(step);
            case 8:
                return now.mayBeDone(step) ? 1 : 0;
            case 9:
                return now.mayBeUndone(step) ? 1 : 0;
            default:
                return error(BEYOND);
        }
    }

    public int change(int step, int what, int v) {
        if (!now.has(step) || !within(v, 0, mostToChange(step, what))) {
            return error(BEYOND);
        }
        int before;
        if (what == 0) {
            before = now.screws[step];
            now.screws[step] = v;
        } else if (what == 1) {
            before = now.needs[step];
            now.needs[step] = v;
        } else {
            if (!now.isDone(step)) {
                return error(STATE);
            }
            before = now.isWrong(step) ? 1 : 0;
            now.wrong = with(now.wrong, step, v == 1);
        }
        return before;
    }

    /** -1, which nothing stands below, where there is no such what. */
    private static int mostToChange(int step, int what) {
        switch (what) {
            case 0:
                return MOST_SCREWS;
            case 1:
                return (1 << step) - 1;
            case 2:
                return 1;
            default:
                return -1;
        }
    }

    public int set(int what, int v) {
        int before;
        if (what == 0 && within(v, 1, 2)) {
            before = now.hands;
            now.hands = v;
        } else if (what == 1 && within(v, 0, MOST_IN_BAG)) {
            before = now.bag;
            now.bag = v;
        } else if (what == 2 && within(v, 0, LAST_MINUTE)) {
            before = now.minute;
            now.minute = v;
        } else {
            return error(BEYOND);
        }
        return before;
    }

    public int become(int step, int km) {
        if (!now.has(step) || !within(km, 0, MOST_KM)) {
            return error(BEYOND);
        }
        int before = now.kindNumbers[step];
        now.kindNumbers[step] = km / 10;
        now.numbers[step] = km % 10;
        return before;
    }

    public int as(int step, int kind) {
        if (!now.has(step) || !within(kind, 0, ABOVE.length - 1)) {
            return error(BEYOND);
        }
        if (!isOf(now.kindNumbers[step], kind)) {
            return error(KIND);
        }
        return now.numbers[step];
    }

    /** Two KINDS up at most stands STEP, so no chain is followed. */
    private static boolean isOf(int own, int kind) {
        if (!within(own, 0, ABOVE.length - 1)) {
            return false;
        }
        return own == kind || ABOVE[own] == kind || kind == 0;
    }

    // ---- texts

    public int feed(long word, int n) {
        if (!within(n, 1, 8)) {
            return error(BEYOND);
        }
        if (now.fed + n > MOST_BYTES) {
            return error(FULL);
        }
        for (int i = 0; i < n; i++) {
            now.tape[now.fed] = (int) (word >>> (8 * i)) & 255;
            now.fed++;
        }
        return now.fed;
    }

    public int text(int use) {
        if (!isUse(use)) {
            return error(BEYOND);
        }
        int fault = reader.read(now.tape, now.fed, use == LASTS ? "smt" : "mtk");
        now.fed = 0;
        if (fault >= 0) {
            return -10 - fault;
        }
        Text place = use == LASTS ? now.lastsText : now.errsText;
        place.hold(reader.code, reader.written);
        return 1;
    }

    public int law(int use, int a, int b, int c) {
        if (!isUse(use)) {
            return error(BEYOND);
        }
        return use == LASTS ? now.lastsBy(a, b, c) : now.errsBy(a, b, c);
    }

    private static boolean isUse(int use) {
        return use == LASTS || use == ERRS;
    }

    // ---- doing, undoing

    public int does(int step) {
        if (!now.has(step)) {
            return error(BEYOND);
        }
        if (!now.mayBeDone(step) || now.minute + now.lasts(step) > LAST_MINUTE) {
            return error(STATE);
        }
        now.finish(step);
        return now.isWrong(step) ? 1 : 0;
    }

    public int undo(int step) {
        if (!now.has(step)) {
            return error(BEYOND);
        }
        if (!now.mayBeUndone(step) || now.minute + now.takesBack(step) > LAST_MINUTE) {
            return error(STATE);
        }
        now.takeApart(step);
        return now.bag;
    }

    public int loose(int n) {
        if (!within(n, 1, MOST_DRAWS)) {
            return error(BEYOND);
        }
        if (now.minute + n * MINUTES_OF_A_DRAW > LAST_MINUTE) {
            return error(STATE);
        }
        int finished = 0;
        for (int i = 0; i < n; i++) {
            int step = now.draw() % MOST_STEPS;
            if (now.mayBeDone(step)) {
                now.finish(step);
                finished++;
            } else if (now.mayBeUndone(step)) {
                now.takeApart(step);
            } else {
                now.minute++;
            }
        }
        return finished;
    }

    // ---- what would be

    public int next(int what) {
        if (!within(what, 0, 1)) {
            return error(BEYOND);
        }
        int found = 0;
        for (int step = 0; step < now.steps; step++) {
            boolean may = what == 0 ? now.mayBeDone(step) : now.mayBeUndone(step);
            found = with(found, step, may);
        }
        return found;
    }

    public int all(int what) {
        if (!within(what, 0, 2)) {
            return error(BEYOND);
        }
        thought.take(now);
        for (int i = 0; i < MOST_STEPS; i++) {
            int step = thought.leastThatMay();
            if (step >= 0) {
                thought.finish(step);
            }
        }
        if (what == 0) {
            return thought.minute - now.minute;
        }
        return what == 1 ? thought.howManyOpen() : Integer.bitCount(thought.wrong);
    }

    public int order(int what) {
        if (!within(what, -1, MOST_ORDERED - 1)) {
            return error(BEYOND);
        }
        int open = now.howManyOpen();
        if (open > MOST_ORDERED) {
            return error(STATE);
        }
        thought.take(now);
        int end = seekBest(thought, path, best, 0, -1);
        if (end < 0 || what >= open) {
            return error(NONE);
        }
        return what < 0 ? end - now.minute : best[what];
    }

    /** The least MINUTE at which all can be DONE, or so far (least; -1: none yet). */
    private static int seekBest(Job at, int[] path, int[] best, int depth, int least) {
        if (at.howManyOpen() == 0) {
            if (least >= 0 && at.minute >= least) {
                return least;
            }
            System.arraycopy(path, 0, best, 0, best.length);
            return at.minute;
        }
        if (depth < 0 || depth >= path.length) {
            return least;
        }
        int bag = at.bag;
        int minute = at.minute;
        int found = least;
        for (int step = 0; step < at.steps; step++) {
            if (at.mayBeDone(step)) {
                path[depth] = step;
                at.pass(step);
                found = seekBest(at, path, best, depth + 1, found);
                at.unpass(step, bag, minute);
            }
        }
        return found;
    }

    public int under(int step) {
        if (!now.has(step)) {
            return error(BEYOND);
        }
        return now.isDone(step) ? now.restingOn(step) : error(STATE);
    }

    public int goBack(int step, int what) {
        if (!now.has(step) || !within(what, 0, 1)) {
            return error(BEYOND);
        }
        if (!now.isDone(step)) {
            return error(STATE);
        }
        if (what == 0) {
            return minutesBackTo(step);
        }
        return isBlocked(step) ? 1 : 0;
    }

    private int minutesBackTo(int step) {
        int steps = with(now.restingOn(step), step, true);
        thought.take(now);
        for (int i = now.steps - 1; i >= step; i--) {
            if (isIn(steps, i)) {
                thought.minute += thought.takesBack(i);
            }
        }
        for (int i = step; i < now.steps; i++) {
            if (isIn(steps, i)) {
                thought.minute += thought.lasts(i);
            }
        }
        return thought.minute - now.minute;
    }

    private boolean isBlocked(int step) {
        int steps = with(now.restingOn(step), step, true);
        boolean blocked = false;
        for (int i = step; i < now.steps; i++) {
            blocked = blocked || isIn(steps, i) && now.kindOf(i).never();
        }
        return blocked;
    }

    public int left() {
        int over = now.bag;
        for (int step = 0; step < now.steps; step++) {
            over -= now.isDone(step) ? 0 : now.screws[step];
        }
        return over;
    }

    public int whose(int n, int what) {
        if (!within(n, 0, 99) || !within(what, 0, 1)) {
            return error(BEYOND);
        }
        int found = 0;
        int least = -1;
        for (int steps = (1 << now.steps) - 1; steps >= 0; steps--) {
            if ((steps & ~now.done) == 0 && now.screwsOf(steps) == n) {
                found++;
                least = steps;
            }
        }
        if (what == 0) {
            return found;
        }
        return least >= 0 ? least : error(NONE);
    }

    public int lookAt() {
        int found = -1;
        int least = 0;
        for (int step = 0; step < now.steps; step++) {
            if (now.isWrong(step) && !isBlocked(step)) {
                int minutes = minutesBackTo(step);
                if (found < 0 || minutes < least) {
                    found = step;
                    least = minutes;
                }
            }
        }
        return found >= 0 ? found : error(NONE);
    }

    public int orders(int sheet, int what) {
        if (!isSheet(sheet) || !within(what, 0, 1)) {
            return error(BEYOND);
        }
        if (bits[sheet] == 0 || !within(lengths[sheet], 1, MOST_TOLD_BY_SHEET)) {
            return error(NONE);
        }
        int found = 0;
        int first = -1;
        thought.take(now);
        for (int step = 0; step < now.steps; step++) {
            int more = ordersFrom(thought, step, cells[sheet], lengths[sheet], 0);
            first = first < 0 && more > 0 ? step : first;
            found += more;
        }
        if (what == 0) {
            return found;
        }
        return first >= 0 ? first : error(NONE);
    }

    /** How many ORDERS go on with this STEP, the numbers ahead of depth being explained. */
    private static int ordersFrom(Job at, int step, int[] minutes, int length, int depth) {
        if (depth < 0 || depth >= length || depth >= minutes.length || !at.mayBeDone(step)) {
            return 0;
        }
        if (at.lasts(step) != minutes[depth]) {
            return 0;
        }
        if (depth == length - 1) {
            return 1;
        }
        int bag = at.bag;
        int minute = at.minute;
        int found = 0;
        at.pass(step);
        for (int i = 0; i < at.steps; i++) {
            found += ordersFrom(at, i, minutes, length, depth + 1);
        }
        at.unpass(step, bag, minute);
        return found;
    }

    public int odds(int step, int part) {
        if (!now.has(step) || !within(part, 0, 1)) {
            return error(BEYOND);
        }
        int right = 0;
        for (int tired = 0; tired <= MOST_TIRED; tired++) {
            right += 1 - now.errsBy(now.numbers[step], tired, now.kindNumbers[step]);
        }
        int whole = MOST_TIRED + 1;
        for (int divisor = whole; divisor > 1; divisor--) {
            if (right % divisor == 0 && whole % divisor == 0) {
                right /= divisor;
                whole /= divisor;
            }
        }
        return part == 0 ? right : whole;
    }

    // ---- draws, voices, sheets, images, what is told

    public int seed(int v) {
        int before = now.z;
        now.z = v;
        return before;
    }

    public int voice(int step, int act, int x) {
        if (!now.has(step) || !within(act, 0, 3)) {
            return error(BEYOND);
        }
        voice.start(step, now.numbers[step]);
        Step kind = now.kindOf(step);
        switch (act) {
            case 0:
                return kind.fits(voice, x);
            case 1:
                return kind.errs(voice, x);
            case 2:
                return kind.looks(voice, x);
            default:
                return kind.undoes(voice, x);
        }
    }

    public int trace(int i) {
        return within(i, 0, voice.begun - 1) ? voice.bodies[i] : error(NONE);
    }

    public int sheet(int sheet, int bits, int n) {
        boolean good = bits == 0 || bits == 8 || bits == 16 || bits == 32;
        if (!isSheet(sheet) || !good) {
            return error(BEYOND);
        }
        if (bits != 0) {
            if (n < 0) {
                return error(STATE);
            }
            if (n > MOST_CELLS) {
                return error(BEYOND);
            }
        }
        this.bits[sheet] = bits;
        lengths[sheet] = bits == 0 ? 0 : n;
        for (int i = 0; i < MOST_CELLS; i++) {
            cells[sheet][i] = 0;
        }
        return 1;
    }

    public int put(int sheet, int i, int v) {
        if (!isSheet(sheet)) {
            return error(BEYOND);
        }
        if (bits[sheet] == 0) {
            return error(NONE);
        }
        if (!within(i, 0, lengths[sheet] - 1)) {
            return error(BEYOND);
        }
        cells[sheet][i] = lowestBits(v, bits[sheet]);
        return 1;
    }

    private static int lowestBits(int v, int bits) {
        if (bits == 8) {
            return v & 0xFF;
        }
        return bits == 16 ? v & 0xFFFF : v;
    }

    public int move(int sheet, int i, int other, int j, int n) {
        if (!isSheet(sheet) || !isSheet(other)) {
            return error(BEYOND);
        }
        if (bits[sheet] == 0 || bits[other] == 0) {
            return error(NONE);
        }
        if (bits[sheet] != bits[other]) {
            return error(KIND);
        }
        if (!standThere(sheet, i, n) || !standThere(other, j, n)) {
            return error(BEYOND);
        }
        System.arraycopy(cells[sheet], i, cells[other], j, n);
        return n;
    }

    /** The room behind i is asked, since i and n together could wrap. */
    private boolean standThere(int sheet, int i, int n) {
        return within(i, 0, lengths[sheet]) && within(n, 0, lengths[sheet] - i);
    }

    public int screws(int sheet) {
        if (!isSheet(sheet)) {
            return error(BEYOND);
        }
        if (bits[sheet] == 0) {
            return error(NONE);
        }
        int most = Math.min(lengths[sheet], now.steps);
        for (int i = 0; i < most; i++) {
            if (!within(cells[sheet][i], 0, MOST_SCREWS)) {
                return i;
            }
            now.screws[i] = cells[sheet][i];
        }
        return most;
    }

    public int judge(int sheet) {
        if (!isSheet(sheet)) {
            return error(BEYOND);
        }
        if (bits[sheet] == 0) {
            return error(NONE);
        }
        int both = Math.min(lengths[sheet], now.steps);
        for (int i = 0; i < both; i++) {
            if (cells[sheet][i] != now.lasts(i)) {
                return i;
            }
        }
        return lengths[sheet] == now.steps ? -1 : both;
    }

    private static boolean isSheet(int sheet) {
        return within(sheet, 0, SHEETS - 1);
    }

    public int image() {
        image.take(now);
        images++;
        return images;
    }

    public int restore() {
        if (images == 0) {
            return error(NONE);
        }
        now.take(image);
        return now.minute;
    }

    public int tell(int v) {
        if (now.waits >= MOST_WAITING) {
            return error(FULL);
        }
        now.waiting[now.waits] = v;
        now.waits++;
        return now.waits;
    }

    public int check() {
        int answer = 0;
        thought.take(now);
        for (int i = 0; i < thought.waits && answer == 0; i++) {
            int step = thought.leastThatMay();
            if (step >= 0) {
                thought.pass(step);
            }
            if (step < 0 || thought.minute != thought.waiting[i]) {
                answer = 1 + i;
            }
        }
        now.waits = 0;
        return answer;
    }

    public int count(int what) {
        switch (what) {
            case 0:
                return now.steps;
            case 1:
                return Integer.bitCount(now.done);
            case 2:
                return Integer.bitCount(now.wrong);
            case 3:
                return now.bag;
            case 4:
                return now.hands;
            case 5:
                return now.minute;
            case 6:
                return now.tired();
            case 7:
                return now.fed;
            case 8:
                return now.waits;
            case 9:
                return voice.begun;
            case 10:
                return now.z;
            default:
                return error(BEYOND);
        }
    }

    public int told(int k) {
        return within(k, 1, ERRORS) ? told[k] : error(BEYOND);
    }

    private int error(int k) {
        if (within(k, 1, ERRORS)) {
            told[k]++;
        }
        return LOW - k;
    }

    private static boolean within(int v, int least, int most) {
        return v >= least && v <= most;
    }

    private static boolean isIn(int steps, int step) {
        return (steps >>> step & 1) == 1;
    }

    private static int with(int steps, int step, boolean in) {
        return in ? steps | 1 << step : steps & ~(1 << step);
    }

    /** Made for each object, since nothing but numbers and texts may be static. */
    private static Step[] allKinds() {
        Step[] kinds = new Step[ABOVE.length];
        kinds[0] = new Step();
        kinds[1] = new Board();
        kinds[2] = new Glued();
        kinds[3] = new Held();
        kinds[4] = new Alike();
        kinds[5] = new Sealed();
        kinds[6] = new Carried();
        return kinds;
    }

    /** All that an IMAGE keeps, and what follows from it. */
    private static final class Job {
        private final Step[] kinds;
        private int steps;
        private final int[] kindNumbers = new int[MOST_STEPS];
        private final int[] numbers = new int[MOST_STEPS];
        private final int[] screws = new int[MOST_STEPS];
        private final int[] needs = new int[MOST_STEPS];
        private int done;
        private int wrong;
        private int hands = 1;
        private int bag = 50;
        private int minute;
        private final Text lastsText = new Text();
        private final Text errsText = new Text();
        private final int[] tape = new int[MOST_BYTES];
        private int fed;
        private final int[] waiting = new int[MOST_WAITING];
        private int waits;
        private int z = 1;

        private Job(Step[] kinds) {
            this.kinds = kinds;
        }

        private void take(Job other) {
            steps = other.steps;
            System.arraycopy(other.kindNumbers, 0, kindNumbers, 0, MOST_STEPS);
            System.arraycopy(other.numbers, 0, numbers, 0, MOST_STEPS);
            System.arraycopy(other.screws, 0, screws, 0, MOST_STEPS);
            System.arraycopy(other.needs, 0, needs, 0, MOST_STEPS);
            done = other.done;
            wrong = other.wrong;
            hands = other.hands;
            bag = other.bag;
            minute = other.minute;
            lastsText.hold(other.lastsText.code, other.lastsText.length);
            errsText.hold(other.errsText.code, other.errsText.length);
            System.arraycopy(other.tape, 0, tape, 0, MOST_BYTES);
            fed = other.fed;
            System.arraycopy(other.waiting, 0, waiting, 0, MOST_WAITING);
            waits = other.waits;
            z = other.z;
        }

        private int add(int km, int itsScrews, int itsNeeds) {
            int step = steps;
            if (step < MOST_STEPS) {
                kindNumbers[step] = km / 10;
                numbers[step] = km % 10;
                screws[step] = itsScrews;
                needs[step] = itsNeeds;
                steps++;
            }
            return step;
        }

        private boolean has(int step) {
            return step >= 0 && step < steps;
        }

        private Step kindOf(int step) {
            int kind = has(step) ? kindNumbers[step] : 0;
            return kinds[within(kind, 0, kinds.length - 1) ? kind : 0];
        }

        private boolean isDone(int step) {
            return isIn(done, step);
        }

        private boolean isWrong(int step) {
            return isIn(wrong, step);
        }

        private int howManyOpen() {
            return steps - Integer.bitCount(done);
        }

        private int tired() {
            return Math.min(MOST_TIRED, minute / 30);
        }

        private int lastsBy(int s, int m, int t) {
            int v = lastsText.isGiven() ? lastsText.workedOut(s, m, t) : 1 + s + t;
            return Math.max(1, Math.min(99, v));
        }

        private int errsBy(int m, int t, int k) {
            if (errsText.isGiven()) {
                return Math.max(0, Math.min(1, errsText.workedOut(m, t, k)));
            }
            return m + t > 9 ? 1 : 0;
        }

        private int lasts(int step) {
            if (!has(step)) {
                return 0;
            }
            int v = lastsBy(screws[step], numbers[step], tired());
            return kindOf(step).lasting(v, hands, numbers[step], screws[step]);
        }

        private int takesBack(int step) {
            return kindOf(step).back(lasts(step));
        }

        private boolean mayBeDone(int step) {
            if (!has(step) || isDone(step)) {
                return false;
            }
            boolean ready = (needs[step] & ~done) == 0 && bag >= screws[step];
            return ready && hands >= kindOf(step).handsNeeded();
        }

        private boolean mayBeUndone(int step) {
            if (!has(step) || !isDone(step) || kindOf(step).never()) {
                return false;
            }
            boolean needed = false;
            for (int i = step + 1; i < steps; i++) {
                needed = needed || isDone(i) && isIn(needs[i], step);
            }
            return !needed;
        }

        /** The least STEP that MAY BE DONE, or -1. */
        private int leastThatMay() {
            for (int step = 0; step < steps; step++) {
                if (mayBeDone(step)) {
                    return step;
                }
            }
            return -1;
        }

        private void finish(int step) {
            if (has(step)) {
                int errs = errsBy(numbers[step], tired(), kindNumbers[step]);
                wrong = with(wrong, step, errs != 0);
                pass(step);
            }
        }

        /** A STEP is DONE, where nobody asks whether it is WRONG. */
        private void pass(int step) {
            if (has(step)) {
                minute += lasts(step);
                bag -= screws[step];
                done = with(done, step, true);
            }
        }

        private void unpass(int step, int bagAhead, int minuteAhead) {
            done = with(done, step, false);
            bag = bagAhead;
            minute = minuteAhead;
        }

        private void takeApart(int step) {
            if (has(step)) {
                minute += takesBack(step);
                bag = Math.min(MOST_IN_BAG, bag + Math.max(0, screws[step] - 1));
                done = with(done, step, false);
                wrong = with(wrong, step, false);
            }
        }

        /** One pass is enough, since each NEEDS lesser numbers alone. */
        private int restingOn(int step) {
            int found = 0;
            for (int i = step + 1; i < steps; i++) {
                boolean rests = (needs[i] & with(found, step, true)) != 0;
                found = with(found, i, rests && isDone(i));
            }
            return found;
        }

        private int screwsOf(int set) {
            int sum = 0;
            for (int step = 0; step < steps; step++) {
                sum += isIn(set, step) ? screws[step] : 0;
            }
            return sum;
        }

        private int draw() {
            z = z * 1103515245 + 12345;
            return z >>> 8;
        }
    }

    /**
     * A TEXT as its code: what stands first is worked out first, a sign behind what it joins.
     * 0 and more are numbers, -1 to -3 the NAMES in order, below that the signs, negative.
     */
    private static final class Text {
        private final int[] code = new int[MOST_BYTES];
        private final int[] stack = new int[MOST_BYTES];
        private int length;

        private void hold(int[] from, int n) {
            if (n >= 0 && n <= code.length && n <= from.length) {
                System.arraycopy(from, 0, code, 0, n);
                length = n;
            }
        }

        private boolean isGiven() {
            return length > 0;
        }

        private int workedOut(int a, int b, int c) {
            int top = 0;
            for (int i = 0; i < length; i++) {
                int sign = code[i];
                if (sign >= -3 && top < stack.length) {
                    stack[top] = valueOf(sign, a, b, c);
                    top++;
                } else if (sign == -'!' && top >= 1) {
                    stack[top - 1] = stack[top - 1] == 0 ? 1 : 0;
                } else if (top >= 2) {
                    top--;
                    stack[top - 1] = joined(-sign, stack[top - 1], stack[top]);
                }
            }
            return stack[0];
        }

        private static int valueOf(int sign, int a, int b, int c) {
            switch (sign) {
                case -1:
                    return a;
                case -2:
                    return b;
                case -3:
                    return c;
                default:
                    return sign;
            }
        }

        private static int joined(int sign, int x, int y) {
            switch (sign) {
                case '|':
                    return x != 0 || y != 0 ? 1 : 0;
                case '&':
                    return x != 0 && y != 0 ? 1 : 0;
                case '<':
                    return x < y ? 1 : 0;
                case '=':
                    return x == y ? 1 : 0;
                case '>':
                    return x > y ? 1 : 0;
                case '+':
                    return x + y;
                case '-':
                    return x - y;
                case '*':
                    return x * y;
                case '/':
                    return y == 0 ? 0 : x / y;
                default:
                    return y == 0 ? 0 : x % y;
            }
        }
    }

    /** Reads THE TAPE into code of its own, so that a FAULT leaves the TEXT ahead as it is. */
    private static final class Reader {
        private static final int COMPARES = 2;
        private static final int RANKS = 5;
        private static final int MOST_OPEN = 5;
        private static final int MOST_DIGITS = 4;

        private int[] tape = new int[0];
        private int end;
        private String names = "";
        private int place;
        private boolean faulty;
        private final int[] code = new int[MOST_BYTES];
        private int written;

        /** The FAULT, or -1. */
        private int read(int[] bytes, int n, String itsNames) {
            tape = bytes;
            end = Math.min(n, bytes.length);
            names = itsNames;
            place = 0;
            faulty = false;
            written = 0;
            readRank(this, 0, 0);
            return faulty || place < end ? place : -1;
        }

        /** -1 at the end, and from a FAULT on, so that nothing is read behind it. */
        private int ahead() {
            return faulty || place >= end ? -1 : tape[place];
        }

        private void write(int sign) {
            if (written < code.length) {
                code[written] = sign;
                written++;
            }
        }

        /** T, A, B, S, P are ranks 0 to 4: each is what the next rank joins by its signs. */
        private static void readRank(Reader reader, int rank, int open) {
            if (rank >= RANKS) {
                readPart(reader, open);
                return;
            }
            readRank(reader, rank + 1, open);
            int most = rank == COMPARES ? 1 : MOST_BYTES;
            for (int i = 0; i < most && joins(rank, reader.ahead()); i++) {
                int sign = reader.ahead();
                reader.place++;
                readRank(reader, rank + 1, open);
                reader.write(-sign);
            }
        }

        private static boolean joins(int rank, int sign) {
            switch (rank) {
                case 0:
                    return sign == '|';
                case 1:
                    return sign == '&';
                case COMPARES:
                    return sign == '<' || sign == '=' || sign == '>';
                case 3:
                    return sign == '+' || sign == '-';
                default:
                    return sign == '*' || sign == '/' || sign == '%';
            }
        }

        /** Q, with so many of ! and ( open around it. */
        private static void readPart(Reader reader, int open) {
            int sign = reader.ahead();
            int name = sign < 0 ? -1 : reader.names.indexOf((char) sign);
            if (isDigit(sign)) {
                reader.readNumber();
            } else if (name >= 0) {
                reader.place++;
                reader.write(-1 - name);
            } else if (sign == '!' && open < MOST_OPEN) {
                reader.place++;
                readPart(reader, open + 1);
                reader.write(-'!');
            } else if (sign == '(' && open < MOST_OPEN) {
                reader.place++;
                readRank(reader, 0, open + 1);
                reader.close();
            } else {
                reader.faulty = true;
            }
        }

        private void close() {
            if (ahead() == ')') {
                place++;
            } else {
                faulty = true;
            }
        }

        private void readNumber() {
            int value = 0;
            for (int i = 0; i < MOST_DIGITS && isDigit(ahead()); i++) {
                value = value * 10 + ahead() - '0';
                place++;
            }
            write(value);
        }

        private static boolean isDigit(int sign) {
            return sign >= '0' && sign <= '9';
        }
    }

    /** Whose VOICE is heard, and THE TRACE of it. */
    private static final class Voice {
        private final int[] bodies = new int[40];
        private int begun;
        private int n;
        private int m;

        private void start(int itsNumber, int itsM) {
            begun = 0;
            n = itsNumber;
            m = itsM;
        }

        private void begins(int body) {
            if (begun < bodies.length) {
                bodies[begun] = body;
                begun++;
            }
        }
    }

    /** The KIND STEP; the KINDS under it tell only what they do otherwise. */
    private static class Step {
        int lasting(int v, int hands, int m, int screws) {
            return v;
        }

        int back(int lasts) {
            return lasts / 2;
        }

        boolean never() {
            return false;
        }

        int handsNeeded() {
            return 1;
        }

        int fits(Voice voice, int x) {
            voice.begins(10);
            return x + voice.n;
        }

        int errs(Voice voice, int x) {
            voice.begins(11);
            return fits(voice, x) * 2;
        }

        int looks(Voice voice, int x) {
            voice.begins(12);
            return x - voice.m;
        }

        int undoes(Voice voice, int x) {
            voice.begins(13);
            return errs(voice, x) ^ looks(voice, x);
        }
    }

    private static class Board extends Step {
        int lasting(int v, int hands, int m, int screws) {
            return v + 1;
        }

        int fits(Voice voice, int x) {
            voice.begins(20);
            return super.fits(voice, x) * 3;
        }
    }

    private static class Glued extends Step {
        int lasting(int v, int hands, int m, int screws) {
            return v + 2;
        }

        boolean never() {
            return true;
        }

        int errs(Voice voice, int x) {
            voice.begins(30);
            return super.errs(voice, x) - looks(voice, 1);
        }
    }

    private static class Held extends Step {
        int lasting(int v, int hands, int m, int screws) {
            return hands == 1 ? v * 2 : v;
        }

        int back(int lasts) {
            return lasts;
        }

        int looks(Voice voice, int x) {
            voice.begins(40);
            return -super.looks(voice, x);
        }
    }

    private static final class Alike extends Board {
        int lasting(int v, int hands, int m, int screws) {
            return super.lasting(v, hands, m, screws) + m % 3;
        }

        int undoes(Voice voice, int x) {
            voice.begins(50);
            return super.undoes(voice, x) - fits(voice, 2);
        }
    }

    private static final class Sealed extends Glued {
        int lasting(int v, int hands, int m, int screws) {
            return super.lasting(v, hands, m, screws) + screws;
        }

        int errs(Voice voice, int x) {
            voice.begins(60);
            return super.errs(voice, x + 1);
        }
    }

    private static final class Carried extends Held {
        int lasting(int v, int hands, int m, int screws) {
            return super.lasting(v, hands, m, screws) + m;
        }

        int handsNeeded() {
            return 2;
        }

        int looks(Voice voice, int x) {
            voice.begins(70);
            return super.looks(voice, x) ^ voice.n;
        }

        int undoes(Voice voice, int x) {
            voice.begins(71);
            return errs(voice, x) - super.undoes(voice, x);
        }
    }
}
