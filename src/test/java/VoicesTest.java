/** Promises 24 to 26: seed, voice, trace. */
public final class VoicesTest {
    public static void main(String[] args) {
        seed();
        stepsVoices();
        voicesByKinds();
        anyNumber();
        voiceErrors();
        Due.end();
    }

    private static void seed() {
        ScrewLeft x = new ScrewLeft();
        Due.is("seed(-7)", x.seed(-7), 1);
        Due.is("seed(the least)", x.seed(Integer.MIN_VALUE), -7);
        Due.is("seed(5)", x.seed(5), Integer.MIN_VALUE);
        Due.is("count(10)", x.count(10), 5);
        Due.is("any number is no ERROR", x.told(1), 0);
        x.loose(1);
        Due.is("count(10) behind a draw", x.count(10), 5 * 1103515245 + 12345);
    }

    private static void voice(int km, int act, int want, int... bodies) {
        ScrewLeft x = new ScrewLeft();
        x.step(0, 0, 0);
        x.step(0, 0, 0);
        x.step(km, 0, 0);
        String call = "voice of " + km + ", " + act;
        Due.is(call, x.voice(2, act, 10), want);
        Due.is(call + ": BODIES", x.count(9), bodies.length);
        for (int i = 0; i < bodies.length; i++) {
            Due.is(call + ": BODY " + i, x.trace(i), bodies[i]);
        }
        Due.is(call + ": no more BODIES", x.trace(bodies.length), Due.NONE);
        Due.is(call + ": trace(-1)", x.trace(-1), Due.NONE);
    }

    /** n is 2, x is 10, m is 3. */
    private static void stepsVoices() {
        voice(3, 0, 12, 10);
        voice(3, 1, 24, 11, 10);
        voice(3, 2, 7, 12);
        voice(3, 3, 24 ^ 7, 13, 11, 10, 12);
    }

    private static void voicesByKinds() {
        voice(13, 0, 36, 20, 10);
        voice(13, 1, 72, 11, 20, 10);
        voice(13, 2, 7, 12);
        voice(13, 3, 72 ^ 7, 13, 11, 20, 10, 12);
        voice(23, 0, 12, 10);
        voice(23, 1, 24 + 2, 30, 11, 10, 12);
        voice(23, 2, 7, 12);
        voice(23, 3, 26 ^ 7, 13, 30, 11, 10, 12, 12);
        voice(33, 1, 24, 11, 10);
        voice(33, 2, -7, 40, 12);
        voice(33, 3, 24 ^ -7, 13, 11, 10, 40, 12);
        voice(43, 0, 36, 20, 10);
        voice(43, 3, (72 ^ 7) - 12, 50, 13, 11, 20, 10, 12, 20, 10);
        voice(53, 0, 12, 10);
        voice(53, 1, 26 + 2, 60, 30, 11, 10, 12);
        voice(53, 3, 28 ^ 7, 13, 60, 30, 11, 10, 12, 12);
        voice(63, 1, 24, 11, 10);
        voice(63, 2, -7 ^ 2, 70, 40, 12);
        voice(63, 3, 24 - (24 ^ (-7 ^ 2)), 71, 11, 10, 13, 11, 10, 70, 40, 12);
    }

    private static void anyNumber() {
        ScrewLeft x = new ScrewLeft();
        x.step(9, 0, 0);
        x.step(0, 0, 0);
        Due.is("ints go round", x.voice(1, 0, Integer.MAX_VALUE), Integer.MIN_VALUE);
        Due.is("looks goes round", x.voice(0, 2, Integer.MIN_VALUE), Integer.MAX_VALUE - 8);
        Due.is("a number as BEYOND is one", x.voice(0, 0, Due.BEYOND), Due.BEYOND);
        Due.is("it is no ERROR", x.told(1), 0);
    }

    private static void voiceErrors() {
        ScrewLeft x = new ScrewLeft();
        x.step(0, 0, 0);
        x.voice(0, 3, 1);
        String before = Due.stateOf(x);
        Due.is("voice(1, 0, 0)", x.voice(1, 0, 0), Due.BEYOND);
        Due.is("voice(-1, 0, 0)", x.voice(-1, 0, 0), Due.BEYOND);
        Due.is("voice(0, 4, 0)", x.voice(0, 4, 0), Due.BEYOND);
        Due.is("voice(0, -1, 0)", x.voice(0, -1, 0), Due.BEYOND);
        Due.holds("a refused voice leaves THE TRACE", before.equals(Due.stateOf(x)));
        x.voice(0, 0, 1);
        Due.is("THE TRACE is of the latest", x.count(9), 1);
        Due.is("trace(1)", x.trace(1), Due.NONE);
        Due.is("trace(40)", x.trace(40), Due.NONE);
        Due.is("trace(the least)", x.trace(Integer.MIN_VALUE), Due.NONE);
    }
}
