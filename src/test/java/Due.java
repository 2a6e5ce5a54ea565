/** Counts answers that are, and that are not, as due. */
final class Due {
    static final int BEYOND = -1000000001;
    static final int NONE = -1000000002;
    static final int STATE = -1000000003;
    static final int FULL = -1000000004;
    static final int KIND = -1000000005;

    private static int passed;
    private static int failed;

    private Due() {
    }

    static void is(String what, long got, long want) {
        if (got == want) {
            passed++;
        } else {
            failed++;
            System.out.println(what + " answered " + got + ", due is " + want);
        }
    }

    static void holds(String what, boolean holds) {
        is(what, holds ? 1 : 0, 1);
    }

    static void end() {
        System.out.println(passed + " answers as due, " + failed + " not");
        if (failed > 0 || passed == 0) {
            System.exit(1);
        }
    }

    /** Feeds a TEXT by words of 8 bytes; answers what text() says. */
    static int text(ScrewLeft x, int use, String text) {
        feed(x, text);
        return x.text(use);
    }

    static void feed(ScrewLeft x, String text) {
        for (int from = 0; from < text.length(); from += 8) {
            int n = Math.min(8, text.length() - from);
            x.feed(word(text, from, n), n);
        }
    }

    static long word(String text, int from, int n) {
        long word = 0;
        for (int i = n - 1; i >= 0; i--) {
            word = word << 8 | text.charAt(from + i);
        }
        return word;
    }

    /** An object with STEPS of all KINDS, none of which NEEDS another. */
    static ScrewLeft oneOfEach() {
        ScrewLeft x = new ScrewLeft();
        for (int kind = 0; kind < 7; kind++) {
            x.step(10 * kind + 4, 2, 0);
        }
        return x;
    }

    /** All of an object that can be asked without changing it, but for what told() tells. */
    static String stateOf(ScrewLeft x) {
        StringBuilder state = new StringBuilder();
        for (int what = 0; what <= 10; what++) {
            state.append(x.count(what)).append(' ');
        }
        for (int step = 0; step < x.count(0); step++) {
            for (int what = 0; what <= 9; what++) {
                state.append(x.ofStep(step, what)).append(' ');
            }
        }
        for (int i = 0; i < x.count(9); i++) {
            state.append(x.trace(i)).append(' ');
        }
        state.append(x.law(0, 3, 4, 5)).append(' ').append(x.law(1, 3, 4, 5)).append(' ');
        for (int sheet = 0; sheet < 4; sheet++) {
            state.append(x.move(sheet, 0, sheet, 0, 1)).append(x.judge(sheet)).append(' ');
        }
        return state.toString();
    }
}
