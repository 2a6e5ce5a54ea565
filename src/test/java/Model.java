import java.util.ArrayList;
import java.util.List;

/** The document once more, as plainly as it can be told and in other ways than the class has. */
final class Model {
    static final int BEYOND = 1;
    static final int NONE = 2;
    static final int STATE = 3;
    static final int FULL = 4;
    static final int KIND = 5;
    private static final String[] PATHS = {"0", "01", "02", "03", "014", "025", "036"};
    private static final String[] NAMES = {"smt", "mtk"};
    private static final String[] RANKS = {"|", "&", "<=>", "+-", "*/%"};

    /** A STEP. */
    static final class Part {
        int kind;
        int m;
        int screws;
        int needs;
        boolean done;
        boolean wrong;

        Part copy() {
            Part part = new Part();
            part.kind = kind;
            part.m = m;
            part.screws = screws;
            part.needs = needs;
            part.done = done;
            part.wrong = wrong;
            return part;
        }
    }

    /** What an IMAGE keeps. */
    static final class World {
        List<Part> parts = new ArrayList<>();
        int hands = 1;
        int bag = 50;
        int minute;
        String[] texts = new String[2];
        String tape = "";
        List<Integer> waiting = new ArrayList<>();
        int z = 1;

        World copy() {
            World world = new World();
            for (Part part : parts) {
                world.parts.add(part.copy());
            }
            world.hands = hands;
            world.bag = bag;
            world.minute = minute;
            world.texts = texts.clone();
            world.tape = tape;
            world.waiting.addAll(waiting);
            world.z = z;
            return world;
        }

        int tired() {
            return minute >= 270 ? 9 : minute / 30;
        }

        boolean is(int step, int kind) {
            return PATHS[parts.get(step).kind].indexOf('0' + kind) >= 0;
        }

        int lasts(int step) {
            Part part = parts.get(step);
            int v = law(this, 0, part.screws, part.m, tired());
            int sum = is(step, 3) && hands == 1 ? v + v : v;
            sum += is(step, 1) ? 1 : 0;
            sum += is(step, 2) ? 2 : 0;
            sum += is(step, 4) ? part.m % 3 : 0;
            sum += is(step, 5) ? part.screws : 0;
            sum += is(step, 6) ? part.m : 0;
            return sum;
        }

        int back(int step) {
            return is(step, 3) ? lasts(step) : lasts(step) / 2;
        }

        boolean may(int step) {
            Part part = parts.get(step);
            if (part.done || part.screws > bag || is(step, 6) && hands != 2) {
                return false;
            }
            for (int i = 0; i < parts.size(); i++) {
                if ((part.needs & 1 << i) != 0 && !parts.get(i).done) {
                    return false;
                }
            }
            return true;
        }

        boolean mayNot(int step) {
            if (!parts.get(step).done || is(step, 2)) {
                return false;
            }
            for (Part part : parts) {
                if (part.done && (part.needs & 1 << step) != 0) {
                    return false;
                }
            }
            return true;
        }

        void finish(int step) {
            Part part = parts.get(step);
            part.wrong = law(this, 1, part.m, tired(), part.kind) != 0;
            minute += lasts(step);
            bag -= part.screws;
            part.done = true;
        }

        void takeApart(int step) {
            Part part = parts.get(step);
            minute += back(step);
            bag += part.screws == 0 ? 0 : part.screws - 1;
            bag = bag > 999 ? 999 : bag;
            part.done = false;
            part.wrong = false;
        }

        int least() {
            for (int step = 0; step < parts.size(); step++) {
                if (may(step)) {
                    return step;
                }
            }
            return -1;
        }

        List<Integer> open() {
            List<Integer> open = new ArrayList<>();
            for (int step = 0; step < parts.size(); step++) {
                if (!parts.get(step).done) {
                    open.add(step);
                }
            }
            return open;
        }

        int wrongs() {
            int wrongs = 0;
            for (Part part : parts) {
                wrongs += part.wrong ? 1 : 0;
            }
            return wrongs;
        }
    }

    World now = new World();
    World kept;
    int images;
    int[] told = new int[6];
    List<Integer> trace = new ArrayList<>();
    int[][] sheets = new int[4][];
    int[] bits = new int[4];

    int error(int k) {
        told[k]++;
        return -1000000000 - k;
    }

    boolean no(int step) {
        return step < 0 || step >= now.parts.size();
    }

    // ---- texts, by splitting at the last sign that binds least

    static int law(World world, int use, int a, int b, int c) {
        String text = world.texts[use];
        int v;
        if (text != null) {
            v = value(text, NAMES[use], new int[] {a, b, c});
        } else {
            v = use == 0 ? 1 + a + c : a + b > 9 ? 1 : 0;
        }
        return Math.min(use == 0 ? 99 : 1, Math.max(use == 0 ? 1 : 0, v));
    }

    /** The last place of a sign of this rank that no ( stands around, or -1. */
    static int last(String text, int rank) {
        int open = 0;
        int found = -1;
        for (int i = 0; i < text.length(); i++) {
            char sign = text.charAt(i);
            open += sign == '(' ? 1 : sign == ')' ? -1 : 0;
            if (open == 0 && RANKS[rank].indexOf(sign) >= 0) {
                found = i;
            }
        }
        return found;
    }

    static int value(String text, String names, int[] values) {
        for (int rank = 0; rank < RANKS.length; rank++) {
            int at = last(text, rank);
            if (at >= 0) {
                int x = value(text.substring(0, at), names, values);
                int y = value(text.substring(at + 1), names, values);
                return join(text.charAt(at), x, y);
            }
        }
        if (text.charAt(0) == '!') {
            return value(text.substring(1), names, values) == 0 ? 1 : 0;
        }
        if (text.charAt(0) == '(') {
            return value(text.substring(1, text.length() - 1), names, values);
        }
        int name = names.indexOf(text.charAt(0));
        return name >= 0 ? values[name] : Integer.parseInt(text);
    }

    static int join(char sign, int x, int y) {
        switch (sign) {
            case '|': return x != 0 | y != 0 ? 1 : 0;
            case '&': return x != 0 & y != 0 ? 1 : 0;
            case '<': return x < y ? 1 : 0;
            case '=': return x == y ? 1 : 0;
            case '>': return x > y ? 1 : 0;
            case '+': return (int) ((long) x + y);
            case '-': return (int) ((long) x - y);
            case '*': return (int) ((long) x * y);
            case '/': return y == 0 ? 0 : (int) ((long) x / y);
            default: return y == 0 ? 0 : (int) ((long) x % y);
        }
    }

    static boolean isText(String text, String names, int rank, int open) {
        if (open > 5 || text.isEmpty()) {
            return false;
        }
        for (int r = rank; r < RANKS.length; r++) {
            int at = last(text, r);
            if (at >= 0) {
                String x = text.substring(0, at);
                return isText(x, names, r == 2 ? 3 : r, open) && isText(text.substring(at + 1), names, r + 1, open);
            }
        }
        if (text.charAt(0) == '!') {
            return isText(text.substring(1), names, RANKS.length, open + 1);
        }
        if (text.charAt(0) == '(' && text.endsWith(")")) {
            return isText(text.substring(1, text.length() - 1), names, 0, open + 1);
        }
        return text.matches("[0-9]{1,4}") || text.length() == 1 && names.indexOf(text.charAt(0)) >= 0;
    }

    /** Whether some TEXT begins so: if any does, one does that ends as soon as it can. */
    static boolean begins(String text, String names) {
        for (String operand : new String[] {"", "1"}) {
            String whole = text + operand;
            for (int i = 0; i <= 5; i++) {
                if (isText(whole, names, 0, 0)) {
                    return true;
                }
                whole += ")";
            }
        }
        return false;
    }

    static int fault(String text, String names) {
        if (isText(text, names, 0, 0)) {
            return -1;
        }
        for (int i = 0; i < text.length(); i++) {
            if (!begins(text.substring(0, i + 1), names)) {
                return i;
            }
        }
        return text.length();
    }

    // ---- the acts

    int step(int km, int screws, int needs) {
        if (km < 0 || km > 69 || screws < 0 || screws > 9 || needs < 0 || needs >> now.parts.size() != 0) {
            return error(BEYOND);
        }
        if (now.parts.size() == 8) {
            return error(FULL);
        }
        Part part = new Part();
        part.kind = km / 10;
        part.m = km % 10;
        part.screws = screws;
        part.needs = needs;
        now.parts.add(part);
        return now.parts.size() - 1;
    }

    int ofStep(int step, int what) {
        if (no(step) || what < 0 || what > 9) {
            return error(BEYOND);
        }
        Part part = now.parts.get(step);
        int[] all = {part.kind, part.m, part.screws, part.needs, part.done ? 1 : 0, part.wrong ? 1 : 0,
            now.lasts(step), now.back(step), now.may(step) ? 1 : 0, now.mayNot(step) ? 1 : 0};
        return all[what];
    }

    int change(int step, int what, int v) {
        if (no(step) || what < 0 || what > 2 || v < 0 || what == 0 && v > 9 || what == 1 && v >> step != 0
                || what == 2 && v > 1) {
            return error(BEYOND);
        }
        Part part = now.parts.get(step);
        if (what == 2 && !part.done) {
            return error(STATE);
        }
        int was = what == 0 ? part.screws : what == 1 ? part.needs : part.wrong ? 1 : 0;
        if (what == 0) {
            part.screws = v;
        }
        if (what == 1) {
            part.needs = v;
        }
        if (what == 2) {
            part.wrong = v == 1;
        }
        return was;
    }

    int set(int what, int v) {
        if (what < 0 || what > 2 || v < (what == 0 ? 1 : 0) || v > new int[] {2, 999, 99999}[what]) {
            return error(BEYOND);
        }
        int was = new int[] {now.hands, now.bag, now.minute}[what];
        now.hands = what == 0 ? v : now.hands;
        now.bag = what == 1 ? v : now.bag;
        now.minute = what == 2 ? v : now.minute;
        return was;
    }

    int become(int step, int km) {
        if (no(step) || km < 0 || km > 69) {
            return error(BEYOND);
        }
        Part part = now.parts.get(step);
        int was = part.kind;
        part.kind = km / 10;
        part.m = km % 10;
        return was;
    }

    int as(int step, int kind) {
        if (no(step) || kind < 0 || kind > 6) {
            return error(BEYOND);
        }
        return now.is(step, kind) ? now.parts.get(step).m : error(KIND);
    }

    int feed(long word, int n) {
        if (n < 1 || n > 8) {
            return error(BEYOND);
        }
        if (now.tape.length() + n > 50) {
            return error(FULL);
        }
        for (int i = 0; i < n; i++) {
            now.tape += (char) (word >> 8 * i & 255);
        }
        return now.tape.length();
    }

    int text(int use) {
        if (use != 0 && use != 1) {
            return error(BEYOND);
        }
        String text = now.tape;
        now.tape = "";
        int fault = fault(text, NAMES[use]);
        if (fault < 0) {
            now.texts[use] = text;
        }
        return fault < 0 ? 1 : -10 - fault;
    }

    int law(int use, int a, int b, int c) {
        return use == 0 || use == 1 ? law(now, use, a, b, c) : error(BEYOND);
    }

    int does(int step) {
        if (no(step)) {
            return error(BEYOND);
        }
        if (!now.may(step) || now.minute + now.lasts(step) >= 100000) {
            return error(STATE);
        }
        now.finish(step);
        return now.parts.get(step).wrong ? 1 : 0;
    }

    int undo(int step) {
        if (no(step)) {
            return error(BEYOND);
        }
        if (!now.mayNot(step) || now.minute + now.back(step) >= 100000) {
            return error(STATE);
        }
        now.takeApart(step);
        return now.bag;
    }

    int loose(int n) {
        if (n < 1 || n > 40) {
            return error(BEYOND);
        }
        if (now.minute + 300 * n >= 100000) {
            return error(STATE);
        }
        int done = 0;
        for (int i = 0; i < n; i++) {
            now.z = now.z * 1103515245 + 12345;
            int step = (now.z >>> 8) % 8;
            if (!no(step) && now.may(step)) {
                now.finish(step);
                done++;
            } else if (!no(step) && now.mayNot(step)) {
                now.takeApart(step);
            } else {
                now.minute++;
            }
        }
        return done;
    }

    int next(int what) {
        if (what != 0 && what != 1) {
            return error(BEYOND);
        }
        int set = 0;
        for (int step = 0; step < now.parts.size(); step++) {
            if (what == 0 ? now.may(step) : now.mayNot(step)) {
                set += 1 << step;
            }
        }
        return set;
    }

    int all(int what) {
        if (what < 0 || what > 2) {
            return error(BEYOND);
        }
        World thought = now.copy();
        while (thought.least() >= 0) {
            thought.finish(thought.least());
        }
        return new int[] {thought.minute - now.minute, thought.open().size(), thought.wrongs()}[what];
    }

    /** All orders of n of these, by numbers. */
    static List<List<Integer>> orders(List<Integer> of, int n) {
        List<List<Integer>> orders = new ArrayList<>();
        if (n == 0) {
            orders.add(new ArrayList<>());
            return orders;
        }
        for (Integer first : of) {
            List<Integer> rest = new ArrayList<>(of);
            rest.remove(first);
            for (List<Integer> order : orders(rest, n - 1)) {
                order.add(0, first);
                orders.add(order);
            }
        }
        return orders;
    }

    /** What each LASTS in this order, or null, if one MAY not BE DONE. */
    List<Integer> minutes(List<Integer> order) {
        World thought = now.copy();
        List<Integer> minutes = new ArrayList<>();
        for (int step : order) {
            if (!thought.may(step)) {
                return null;
            }
            minutes.add(thought.lasts(step));
            thought.finish(step);
        }
        return minutes;
    }

    static int sum(List<Integer> numbers) {
        int sum = 0;
        for (int number : numbers) {
            sum += number;
        }
        return sum;
    }

    int order(int what) {
        if (what < -1 || what > 4) {
            return error(BEYOND);
        }
        List<Integer> open = now.open();
        if (open.size() > 5) {
            return error(STATE);
        }
        List<Integer> best = null;
        for (List<Integer> order : orders(open, open.size())) {
            if (minutes(order) != null && (best == null || sum(minutes(order)) < sum(minutes(best)))) {
                best = order;
            }
        }
        if (best == null || what >= best.size()) {
            return error(NONE);
        }
        return what < 0 ? sum(minutes(best)) : best.get(what);
    }

    int resting(int step) {
        int set = 0;
        for (int again = 0; again < 8; again++) {
            for (int i = 0; i < now.parts.size(); i++) {
                Part part = now.parts.get(i);
                if (part.done && (part.needs & (set | 1 << step)) != 0) {
                    set |= 1 << i;
                }
            }
        }
        return set;
    }

    int under(int step) {
        if (no(step)) {
            return error(BEYOND);
        }
        return now.parts.get(step).done ? resting(step) : error(STATE);
    }

    int backTo(int step) {
        World thought = now.copy();
        int set = resting(step) | 1 << step;
        for (int i = 7; i >= 0; i--) {
            thought.minute += (set & 1 << i) != 0 ? thought.back(i) : 0;
        }
        for (int i = 0; i < 8; i++) {
            thought.minute += (set & 1 << i) != 0 ? thought.lasts(i) : 0;
        }
        return thought.minute - now.minute;
    }

    boolean blocked(int step) {
        int set = resting(step) | 1 << step;
        for (int i = 0; i < now.parts.size(); i++) {
            if ((set & 1 << i) != 0 && now.is(i, 2)) {
                return true;
            }
        }
        return false;
    }

    int goBack(int step, int what) {
        if (no(step) || what < 0 || what > 1) {
            return error(BEYOND);
        }
        if (!now.parts.get(step).done) {
            return error(STATE);
        }
        return what == 0 ? backTo(step) : blocked(step) ? 1 : 0;
    }

    int left() {
        int left = now.bag;
        for (int step : now.open()) {
            left -= now.parts.get(step).screws;
        }
        return left;
    }

    int whose(int n, int what) {
        if (n < 0 || n > 99 || what < 0 || what > 1) {
            return error(BEYOND);
        }
        List<Integer> found = new ArrayList<>();
        for (int set = 0; set < 1 << now.parts.size(); set++) {
            int screws = 0;
            for (int i = 0; i < now.parts.size(); i++) {
                Part part = now.parts.get(i);
                screws += (set & 1 << i) == 0 ? 0 : part.done ? part.screws : 1000;
            }
            if (screws == n) {
                found.add(set);
            }
        }
        return what == 0 ? found.size() : found.isEmpty() ? error(NONE) : found.get(0);
    }

    int lookAt() {
        int best = -1;
        for (int step = now.parts.size() - 1; step >= 0; step--) {
            if (now.parts.get(step).wrong && !blocked(step) && (best < 0 || backTo(step) <= backTo(best))) {
                best = step;
            }
        }
        return best < 0 ? error(NONE) : best;
    }

    int orders(int sheet, int what) {
        if (sheet < 0 || sheet > 3 || what < 0 || what > 1) {
            return error(BEYOND);
        }
        if (bits[sheet] == 0 || sheets[sheet].length == 0 || sheets[sheet].length > 4) {
            return error(NONE);
        }
        List<Integer> told = new ArrayList<>();
        for (int number : sheets[sheet]) {
            told.add(number);
        }
        List<Integer> first = null;
        int found = 0;
        for (List<Integer> order : orders(now.open(), told.size())) {
            if (told.equals(minutes(order))) {
                found++;
                first = first == null ? order : first;
            }
        }
        return what == 0 ? found : first == null ? error(NONE) : first.get(0);
    }

    int odds(int step, int part) {
        if (no(step) || part < 0 || part > 1) {
            return error(BEYOND);
        }
        int right = 0;
        for (int t = 0; t < 10; t++) {
            right += law(now, 1, now.parts.get(step).m, t, now.parts.get(step).kind) == 0 ? 1 : 0;
        }
        int[] above = {0, 1, 1, 3, 2, 1, 3, 7, 4, 9, 1};
        int[] below = {1, 10, 5, 10, 5, 2, 5, 10, 5, 10, 1};
        return part == 0 ? above[right] : below[right];
    }

    int seed(int v) {
        int was = now.z;
        now.z = v;
        return was;
    }

    // ---- voices, each BODY found by its KIND's name

    int voice(int step, int act, int x) {
        if (no(step) || act < 0 || act > 3) {
            return error(BEYOND);
        }
        trace.clear();
        return says(step, now.parts.get(step).kind, act, x);
    }

    /** The BODY of an act from this KIND on upward. */
    int says(int step, int from, int act, int x) {
        int own = now.parts.get(step).kind;
        int m = now.parts.get(step).m;
        int above = from > 3 ? from - 3 : 0;
        String key = "" + (char) ('a' + from) + act;
        switch (key) {
            case "a0": trace.add(10); return x + step;
            case "a1": trace.add(11); return says(step, own, 0, x) * 2;
            case "a2": trace.add(12); return x - m;
            case "a3": {
                trace.add(13);
                int left = says(step, own, 1, x);
                return left ^ says(step, own, 2, x);
            }
            case "b0": trace.add(20); return says(step, above, 0, x) * 3;
            case "c1": {
                trace.add(30);
                int left = says(step, above, 1, x);
                return left - says(step, own, 2, 1);
            }
            case "d2": trace.add(40); return -says(step, above, 2, x);
            case "e3": {
                trace.add(50);
                int left = says(step, above, 3, x);
                return left - says(step, own, 0, 2);
            }
            case "f1": trace.add(60); return says(step, above, 1, x + 1);
            case "g2": trace.add(70); return says(step, above, 2, x) ^ step;
            case "g3": {
                trace.add(71);
                int left = says(step, own, 1, x);
                return left - says(step, above, 3, x);
            }
            default: return says(step, above, act, x);
        }
    }

    int trace(int i) {
        return i >= 0 && i < trace.size() && i < 40 ? trace.get(i) : error(NONE);
    }

    int sheet(int sheet, int b, int n) {
        if (sheet < 0 || sheet > 3 || b != 0 && b != 8 && b != 16 && b != 32) {
            return error(BEYOND);
        }
        if (b != 0 && n < 0) {
            return error(STATE);
        }
        if (b != 0 && n > 40) {
            return error(BEYOND);
        }
        bits[sheet] = b;
        sheets[sheet] = b == 0 ? null : new int[n];
        return 1;
    }

    int put(int sheet, int i, int v) {
        if (sheet < 0 || sheet > 3) {
            return error(BEYOND);
        }
        if (sheets[sheet] == null) {
            return error(NONE);
        }
        if (i < 0 || i >= sheets[sheet].length) {
            return error(BEYOND);
        }
        sheets[sheet][i] = (int) (v & (1L << bits[sheet]) - 1);
        return 1;
    }

    int move(int sheet, int i, int other, int j, int n) {
        if (sheet < 0 || sheet > 3 || other < 0 || other > 3) {
            return error(BEYOND);
        }
        if (sheets[sheet] == null || sheets[other] == null) {
            return error(NONE);
        }
        if (bits[sheet] != bits[other]) {
            return error(KIND);
        }
        if (n < 0 || i < 0 || j < 0 || (long) i + n > sheets[sheet].length || (long) j + n > sheets[other].length) {
            return error(BEYOND);
        }
        int[] before = sheets[sheet].clone();
        for (int k = 0; k < n; k++) {
            sheets[other][j + k] = before[i + k];
        }
        return n;
    }

    int screws(int sheet) {
        if (sheet < 0 || sheet > 3) {
            return error(BEYOND);
        }
        if (sheets[sheet] == null) {
            return error(NONE);
        }
        int i = 0;
        while (i < sheets[sheet].length && !no(i) && sheets[sheet][i] >= 0 && sheets[sheet][i] <= 9) {
            now.parts.get(i).screws = sheets[sheet][i];
            i++;
        }
        return i;
    }

    int judge(int sheet) {
        if (sheet < 0 || sheet > 3) {
            return error(BEYOND);
        }
        if (sheets[sheet] == null) {
            return error(NONE);
        }
        for (int i = 0; i < 50; i++) {
            boolean number = i < sheets[sheet].length;
            if (number != !no(i) || number && sheets[sheet][i] != now.lasts(i)) {
                return i;
            }
        }
        return -1;
    }

    int image() {
        kept = now.copy();
        return ++images;
    }

    int restore() {
        if (kept == null) {
            return error(NONE);
        }
        now = kept.copy();
        return now.minute;
    }

    int tell(int v) {
        if (now.waiting.size() == 20) {
            return error(FULL);
        }
        now.waiting.add(v);
        return now.waiting.size();
    }

    int check() {
        List<Integer> told = new ArrayList<>(now.waiting);
        now.waiting.clear();
        World thought = now.copy();
        for (int i = 0; i < told.size(); i++) {
            if (thought.least() < 0) {
                return 1 + i;
            }
            thought.finish(thought.least());
            if (thought.minute != told.get(i)) {
                return 1 + i;
            }
        }
        return 0;
    }

    int count(int what) {
        if (what < 0 || what > 10) {
            return error(BEYOND);
        }
        int steps = now.parts.size();
        int[] all = {steps, steps - now.open().size(), now.wrongs(), now.bag, now.hands, now.minute, now.tired(),
            now.tape.length(), now.waiting.size(), Math.min(40, trace.size()), now.z};
        return all[what];
    }

    int told(int k) {
        return k >= 1 && k <= 5 ? told[k] : error(BEYOND);
    }
}
